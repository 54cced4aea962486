/-! ===== shelf: in how many ways those that are left follow; the first order ===== -/
def gd_ul (τ : Nat → Nat) (st : Nat) (o : Option Nat) (t : Nat) : Bool := match o with
  | none => true
  | some a => !decide (gd_lk τ a st = gd_lk τ t st)
def gd_cf (τ : Nat → Nat) (st S : Nat) (o : Option Nat) (t : Nat) : Bool := decide (S / 2 ^ t % 2 = 0) && gd_ul τ st o t
def gd_en (τ : Nat → Nat) (st : Nat) : Nat → Nat → Nat → Nat
  | 0, _, _ => 0
  | f + 1, S, a => if S + 1 = 2 ^ τ 1 then 1 else gd_sm (fun t => if gd_cf τ st S (some a) t = true then gd_en τ st f (S + 2 ^ t) t else 0) (τ 1)
def gd_ey (τ : Nat → Nat) (st S a : Nat) : Nat := gd_en τ st (8 - gd_bits S) S a
theorem gd_bits_add : ∀ S, S < 128 → ∀ t, t < 7 → S / 2 ^ t % 2 = 0 → gd_bits (S + 2 ^ t) = gd_bits S + 1 := by decide +kernel
theorem gd_S_lt : ∀ T, T < 8 → ∀ S, S < 2 ^ T → ∀ t, t < T → S / 2 ^ t % 2 = 0 → S + 2 ^ t < 2 ^ T := by decide +kernel
theorem gd_or3 : ∀ S, S < 128 → ∀ t, t < 7 → S / 2 ^ t % 2 = 0 → nI S ||| nI (2 ^ t) = nI (S + 2 ^ t) := by decide +kernel
theorem gd_allb : ∀ T, T < 8 → ∀ t, t < T → (2 ^ T - 1) / 2 ^ t % 2 = 1 := by decide +kernel
theorem gd_bits_all : ∀ T, T < 8 → gd_bits (2 ^ T - 1) = T := by decide +kernel
theorem gd_bit_new : ∀ S, S < 128 → ∀ t, t < 7 → S / 2 ^ t % 2 = 0 → (S + 2 ^ t) / 2 ^ t % 2 = 1 := by decide +kernel
theorem gd_bits_le7 (S : Nat) : gd_bits S ≤ 7 := by
  have : gd_bits S ≤ 7 * 1 := gd_sm_le (fun j _ => by omega)
  omega
theorem gd_p128 {T S : Nat} (hT : T ≤ 7) (hS : S < 2 ^ T) : S < 128 := Nat.lt_of_lt_of_le hS (Nat.pow_le_pow_right (n := 2) (by omega) hT)
theorem gd_cf_t {τ : Nat → Nat} {st S t : Nat} {o : Option Nat} (h : gd_cf τ st S o t = true) : S / 2 ^ t % 2 = 0 := by
  rw [gd_cf, Bool.and_eq_true] at h
  exact of_decide_eq_true h.1
theorem gd_ey_eq {τ : Nat → Nat} {st S a : Nat} (h7 : τ 1 ≤ 7) (hS : S < 2 ^ τ 1) : gd_ey τ st S a = if S + 1 = 2 ^ τ 1 then 1 else gd_sm (fun t => if gd_cf τ st S (some a) t = true then gd_ey τ st (S + 2 ^ t) t else 0) (τ 1) := by
  have hb := gd_bits_le7 S
  rw [gd_ey, show 8 - gd_bits S = (7 - gd_bits S) + 1 by omega, gd_en]
  by_cases e : S + 1 = 2 ^ τ 1
  · rw [if_pos e, if_pos e]
  · rw [if_neg e, if_neg e]
    refine gd_sm_cong (fun t ht => ?_)
    by_cases q : gd_cf τ st S (some a) t = true
    · rw [if_pos q, if_pos q, gd_ey, gd_bits_add S (gd_p128 h7 hS) t (by omega) (gd_cf_t q), show 8 - (gd_bits S + 1) = 7 - gd_bits S by omega]
    · rw [if_neg q, if_neg q]
theorem gd_en_le {τ : Nat → Nat} {st : Nat} (h7 : τ 1 ≤ 7) : ∀ f S a, gd_en τ st f S a ≤ 7 ^ f
  | 0, S, a => by rw [gd_en]; omega
  | f + 1, S, a => by
    have hp : 1 ≤ 7 ^ f := Nat.pow_pos (by omega)
    rw [gd_en, Nat.pow_succ]
    split
    · omega
    · have h1 : gd_sm (fun t => if gd_cf τ st S (some a) t = true then gd_en τ st f (S + 2 ^ t) t else 0) (τ 1) ≤ τ 1 * 7 ^ f := gd_sm_le (fun t _ => by
        split
        · exact gd_en_le h7 f _ _
        · omega)
      have h2 : τ 1 * 7 ^ f ≤ 7 * 7 ^ f := Nat.mul_le_mul_right _ h7
      omega
theorem gd_ey_lt {τ : Nat → Nat} {st S a : Nat} (h7 : τ 1 ≤ 7) : gd_ey τ st S a < 2 ^ 31 := by
  have h1 := gd_en_le (st := st) h7 (8 - gd_bits S) S a
  have h2 : 7 ^ (8 - gd_bits S) ≤ 7 ^ 8 := Nat.pow_le_pow_right (by omega) (by omega)
  rw [gd_ey]
  have h3 : 7 ^ 8 < 2 ^ 31 := by decide
  omega
def gd_lv (o : Option Nat) : Int32 := match o with
  | none => -1000000
  | some a => nI a
def gd_nxF (P : Nat → Bool) : Nat → Nat → Option Nat
  | 0, _ => none
  | m + 1, t => if P t = true then some t else gd_nxF P m (t + 1)
def gd_nP (τ : Nat → Nat) (st S : Nat) (o : Option Nat) (t : Nat) : Bool := gd_cf τ st S o t && decide (0 < gd_ey τ st (S + 2 ^ t) t)
def gd_nx (τ : Nat → Nat) (st S : Nat) (o : Option Nat) : Option Nat := gd_nxF (gd_nP τ st S o) (τ 1) 0
theorem gd_nxF_some {P : Nat → Bool} {j : Nat} : ∀ m t, gd_nxF P m t = some j → P j = true ∧ t ≤ j ∧ j < t + m ∧ ∀ i, t ≤ i → i < j → P i = false
  | 0, t, h => by cases h
  | m + 1, t, h => by
    rw [gd_nxF] at h
    by_cases e : P t = true
    · rw [if_pos e] at h
      cases h
      exact ⟨e, Nat.le_refl _, by omega, fun i h1 h2 => by omega⟩
    · rw [if_neg e] at h
      obtain ⟨a1, a2, a3, a4⟩ := gd_nxF_some m (t + 1) h
      exact ⟨a1, by omega, by omega, fun i h1 h2 => by
        by_cases q : i = t
        · rw [q]; exact Bool.eq_false_iff.mpr e
        · exact a4 i (by omega) h2⟩
theorem gd_nxF_none {P : Nat → Bool} : ∀ m t, gd_nxF P m t = none → ∀ i, t ≤ i → i < t + m → P i = false
  | 0, t, h, i, h1, h2 => by omega
  | m + 1, t, h, i, h1, h2 => by
    rw [gd_nxF] at h
    by_cases e : P t = true
    · rw [if_pos e] at h; cases h
    · rw [if_neg e] at h
      by_cases q : i = t
      · rw [q]; exact Bool.eq_false_iff.mpr e
      · exact gd_nxF_none m (t + 1) h i (by omega) (by omega)
theorem gd_nx_some {τ : Nat → Nat} {st S t : Nat} {o : Option Nat} (h : gd_nx τ st S o = some t) : t < τ 1 ∧ gd_cf τ st S o t = true ∧ 0 < gd_ey τ st (S + 2 ^ t) t ∧ ∀ i, i < t → gd_nP τ st S o i = false := by
  obtain ⟨a1, a2, a3, a4⟩ := gd_nxF_some _ _ h
  rw [gd_nP, Bool.and_eq_true] at a1
  exact ⟨by omega, a1.1, of_decide_eq_true a1.2, fun i hi => a4 i (by omega) hi⟩
def gd_shf (τ : Nat → Nat) (st : Nat) : Nat → Option (Nat × Option Nat)
  | 0 => some (0, none)
  | i + 1 => match gd_shf τ st i with
    | none => none
    | some q => match gd_nx τ st q.1 q.2 with
      | none => none
      | some t => some (q.1 + 2 ^ t, some t)
theorem gd_shf_no {τ : Nat → Nat} {st i : Nat} (h : gd_shf τ st i = none) : ∀ d, gd_shf τ st (i + d) = none
  | 0 => h
  | d + 1 => by
    rw [← Nat.add_assoc, gd_shf, gd_shf_no h d]
theorem gd_shf_n {τ : Nat → Nat} {st i S : Nat} {o : Option Nat} (h : gd_shf τ st i = some (S, o)) (e : gd_nx τ st S o = none) : gd_shf τ st (i + 1) = none := by
  rw [gd_shf, h]
  dsimp only
  rw [e]
theorem gd_shf_s {τ : Nat → Nat} {st i S t : Nat} {o : Option Nat} (h : gd_shf τ st i = some (S, o)) (e : gd_nx τ st S o = some t) : gd_shf τ st (i + 1) = some (S + 2 ^ t, some t) := by
  rw [gd_shf, h]
  dsimp only
  rw [e]
def gd_sk (τ : Nat → Nat) (st k : Nat) : Int32 := if k < τ 1 then (match gd_shf τ st (k + 1) with | some q => gd_lv q.2 | none => -1000000) else -1000000
theorem gd_sk_s {τ : Nat → Nat} {st k S : Nat} {o : Option Nat} (hk : k < τ 1) (h : gd_shf τ st (k + 1) = some (S, o)) : gd_sk τ st k = gd_lv o := by
  rw [gd_sk, if_pos hk, h]
theorem gd_sk_n {τ : Nat → Nat} {st k i : Nat} (hi : i ≤ k + 1) (h : gd_shf τ st i = none) : gd_sk τ st k = -1000000 := by
  have := gd_shf_no h (k + 1 - i)
  rw [show i + (k + 1 - i) = k + 1 by omega] at this
  rw [gd_sk, this]
  split <;> rfl
def gd_so (τ : Nat → Nat) (st : Nat) : Nat := gd_sm (fun t => gd_ey τ st (2 ^ t) t) (τ 1)
def sp_shelf (τ : Nat → Nat) (x y : Int32) : Int32 := if τ 0 = 1 then (if gd_rng x 0 100 = true ∧ gd_rng y (-1) 6 = true then (if y.toInt < 0 then nI (if τ 1 = 0 then 1 else gd_so τ (gd_miss τ x.toNatClampNeg)) else gd_sk τ (gd_miss τ x.toNatClampNeg) y.toNatClampNeg) else -1000001) else -1000002
/-- an answer, and two rows of Foretold's change -/
def gd_s2 (v : Int32) (h : pj_H) (f0 n : Nat) : Option Value → pj_H → Nat → Prop := fun r h' n' => r = some (.int v) ∧ n' = n ∧ ∃ f fe, h' = pj_up (pj_up h (f0 + 1) (.inl (0, 7, .inl f))) (f0 + 3) (.inl (0, 896, .inl fe))
theorem gd_s2_same {h : pj_H} {f0 n : Nat} {x v : Int32} (hF : gd_F h f0) (hx : x = v) : gd_s2 v h f0 n (some (.int x)) h n := by
  obtain ⟨f, h1⟩ := hF.2.1
  obtain ⟨fe, h3⟩ := hF.2.2.2
  exact ⟨by rw [hx], rfl, f, fe, by rw [pj_up_id h1, pj_up_id h3]⟩
section
variable {E : pj_E} {B : Nat} {l : Launch} {h : pj_H} {n b k ac g f0 : Nat} {po : Option Nat} {lf stt : Int32} {τ : Nat → Nat} {v : Nat → Int32}
theorem c_X3_placeOfEnding (p a : Nat) : pj_Ct E B l Y_X3_placeOfEnding 1 0 0 [.int (nI p), .int (nI a)] h n (pj_is (some (.int (nI (p * 7 + a)))) h n) := by
  refine pj_in rfl (ls := [some (.int (nI p)), some (.int (nI a))]) rfl (Nat.le_of_ble_eq_true rfl) ?_
  refine pj_ild0 (q := 1) (pj_d p_X3_placeOfEnding 0 rfl) rfl ?_
  refine pj_bipush (q := 3) (v := nI 7) (pj_d p_X3_placeOfEnding 1 rfl) rfl (by decide) ?_
  refine pj_imul (q := 4) (pj_d p_X3_placeOfEnding 2 rfl) rfl ?_
  refine pj_ild1 (q := 5) (pj_d p_X3_placeOfEnding 3 rfl) rfl ?_
  refine pj_iadd (q := 6) (pj_d p_X3_placeOfEnding 4 rfl) rfl ?_
  rw [pk_mul, nI_add]
  refine pj_iret rfl (pj_d p_X3_placeOfEnding 5 rfl) (by decide) (by decide) ?_
  exact ⟨rfl, rfl, rfl⟩
theorem c_X3_canFollow {fl : Nat → Int32} {S t st : Nat} {o : Option Nat} (F0 : h f0 = some (.inr (3, [.ref (f0 + 1), .ref (f0 + 2), .ref (f0 + 3)]))) (F1 : h (f0 + 1) = some (.inl (0, 7, .inl fl))) (hl : gd_looked τ st fl) (hW : gd_W τ) (hst : st < 32) (hS : S < 128) (ht : t < τ 1) (ho : ∀ a, o = some a → a < τ 1) : pj_Ct E B l Y_X3_canFollow 1 0 0 [.ref f0, .int (nI S), .int (gd_lv o), .int (nI t)] h n (pj_is (some (.int (gd_b (gd_cf τ st S o t)))) h n) := by
  have h7 := hW.1
  have t7 : t < 7 := by omega
  refine pj_in rfl (ls := [some (.ref f0), some (.int (nI S)), some (.int (gd_lv o)), some (.int (nI t))]) rfl (Nat.le_of_ble_eq_true rfl) ?_
  refine pj_ild1 (q := 1) (pj_d p_X3_canFollow 0 rfl) rfl ?_
  refine pj_ild3 (q := 2) (pj_d p_X3_canFollow 1 rfl) rfl ?_
  refine pj_ishr (q := 3) (pj_d p_X3_canFollow 2 rfl) rfl ?_
  refine pj_iconst (q := 4) (v := nI 1) (pj_d p_X3_canFollow 3 rfl) rfl (by decide) ?_
  refine pj_iand (q := 5) (pj_d p_X3_canFollow 4 rfl) rfl ?_
  rw [gd_shr1 S hS t t7]
  refine pj_if_eq (t := 10) (q := 8) (pj_d p_X3_canFollow 5 rfl) rfl (by decide) (fun c1 => ?_) (fun c1 => ?_)
  rotate_left
  · have e : ¬ S / 2 ^ t % 2 = 0 := fun q => c1 (by rw [q]; rfl)
    rw [gd_cf, decide_eq_false e, Bool.false_and]
    refine pj_iconst (q := 9) (v := nI 0) (pj_d p_X3_canFollow 6 rfl) rfl (by decide) ?_
    refine pj_zret rfl (by first | rfl | decide | (split <;> rfl)) (pj_d p_X3_canFollow 7 rfl) (by decide) (by decide) ?_
    exact ⟨rfl, rfl, rfl⟩
  have e : S / 2 ^ t % 2 = 0 := (nI_eq (by omega) (by omega)).mp (c1.trans nI_0.symm)
  rw [gd_cf, decide_eq_true e, Bool.true_and]
  cases o with
  | none =>
    refine pj_ild2 (q := 11) (pj_d p_X3_canFollow 8 rfl) rfl ?_
    refine pj_if_lt (t := 29) (q := 14) (pj_d p_X3_canFollow 9 rfl) rfl (by decide) (fun c2 => ?_) (fun c2 => ?_)
    · refine pj_iconst (q := 30) (v := nI 1) (pj_d p_X3_canFollow 19 rfl) rfl (by decide) ?_
      refine pj_goto (t := 34) (pj_d p_X3_canFollow 20 rfl) (by decide) ?_
      refine pj_zret rfl (by first | rfl | decide | (split <;> rfl)) (pj_d p_X3_canFollow 22 rfl) (by decide) (by decide) ?_
      exact ⟨rfl, rfl, rfl⟩
    · exact absurd (show gd_lv none < 0 by decide) c2
  | some a =>
    have ha := ho a rfl
    have a7 : a < 7 := by omega
    have la := gd_lk_lt hW ha hst
    have lt := gd_lk_lt hW ht hst
    show pj_V E B l Y_X3_canFollow 1 0 0 10 [some (.ref f0), some (.int (nI S)), some (.int (nI a)), some (.int (nI t))] [] h n 0 0 (pj_is (some (.int (gd_b (gd_ul τ st (some a) t)))) h n)
    refine pj_ild2 (q := 11) (pj_d p_X3_canFollow 8 rfl) rfl ?_
    refine pj_if_lt (t := 29) (q := 14) (pj_d p_X3_canFollow 9 rfl) rfl (by decide) (fun c2 => ?_) (fun c2 => ?_)
    · exact absurd c2 (nI_pos (by omega))
    refine pj_ald0 (q := 15) (pj_d p_X3_canFollow 10 rfl) rfl ?_
    refine pj_gf (q := 18) (k := 0) (pj_d p_X3_canFollow 11 rfl) rfl kX3_11 (by first | assumption | exact pj_up_s | exact (pj_up_n (by omega)).trans (by assumption)) (by rfl) (by rfl) ?_
    refine pj_ild2 (q := 19) (pj_d p_X3_canFollow 12 rfl) rfl ?_
    refine pj_ialdN (q := 20) (pj_d p_X3_canFollow 13 rfl) rfl (by first | assumption | exact pj_up_s | exact (pj_up_n (by omega)).trans (by assumption)) (by rfl) (by first | assumption | omega) (Nat.le_of_ble_eq_true rfl) ?_
    rw [hl a ha]
    refine pj_ald0 (q := 21) (pj_d p_X3_canFollow 14 rfl) rfl ?_
    refine pj_gf (q := 24) (k := 0) (pj_d p_X3_canFollow 15 rfl) rfl kX3_11 (by first | assumption | exact pj_up_s | exact (pj_up_n (by omega)).trans (by assumption)) (by rfl) (by rfl) ?_
    refine pj_ild3 (q := 25) (pj_d p_X3_canFollow 16 rfl) rfl ?_
    refine pj_ialdN (q := 26) (pj_d p_X3_canFollow 17 rfl) rfl (by first | assumption | exact pj_up_s | exact (pj_up_n (by omega)).trans (by assumption)) (by rfl) (by first | assumption | omega) (Nat.le_of_ble_eq_true rfl) ?_
    rw [hl t ht]
    refine pj_icmp_eq (t := 33) (q := 29) (pj_d p_X3_canFollow 18 rfl) rfl (by decide) (fun c3 => ?_) (fun c3 => ?_)
    · have e2 := (nI_eq (by omega) (by omega)).mp c3
      rw [show gd_ul τ st (some a) t = false by simp [gd_ul, e2]]
      refine pj_iconst (q := 34) (v := nI 0) (pj_d p_X3_canFollow 21 rfl) rfl (by decide) ?_
      refine pj_zret rfl (by first | rfl | decide | (split <;> rfl)) (pj_d p_X3_canFollow 22 rfl) (by decide) (by decide) ?_
      exact ⟨rfl, rfl, rfl⟩
    · have e2 : ¬ gd_lk τ a st = gd_lk τ t st := fun q => c3 (by rw [q])
      rw [show gd_ul τ st (some a) t = true by simp [gd_ul, e2]]
      refine pj_iconst (q := 30) (v := nI 1) (pj_d p_X3_canFollow 19 rfl) rfl (by decide) ?_
      refine pj_goto (t := 34) (pj_d p_X3_canFollow 20 rfl) (by decide) ?_
      refine pj_zret rfl (by first | rfl | decide | (split <;> rfl)) (pj_d p_X3_canFollow 22 rfl) (by decide) (by decide) ?_
      exact ⟨rfl, rfl, rfl⟩
theorem c_X3_nextOnShelf {fl fe : Nat → Int32} {S st : Nat} {o : Option Nat} (F0 : h f0 = some (.inr (3, [.ref (f0 + 1), .ref (f0 + 2), .ref (f0 + 3)]))) (F1 : h (f0 + 1) = some (.inl (0, 7, .inl fl))) (F3 : h (f0 + 3) = some (.inl (0, 896, .inl fe))) (hl : gd_looked τ st fl) (hT : gd_T h k τ ac) (hW : gd_W τ) (hst : st < 32) (hS : S < 2 ^ τ 1) (ho : ∀ a, o = some a → a < τ 1) (hE : ∀ t, t < τ 1 → S / 2 ^ t % 2 = 0 → fe ((S + 2 ^ t) * 7 + t) = nI (gd_ey τ st (S + 2 ^ t) t)) : pj_Ct E B l Y_X3_nextOnShelf 2 0 0 [.ref f0, .ref k, .int (nI S), .int (gd_lv o)] h n (pj_is (some (.int (gd_lv (gd_nx τ st S o)))) h n) := by
  have h7 := hW.1
  have t0 := hT.1
  have S128 := gd_p128 h7 hS
  refine pj_in rfl (ls := [some (.ref f0), some (.ref k), some (.int (nI S)), some (.int (gd_lv o)), none]) rfl (Nat.le_of_ble_eq_true rfl) ?_
  refine pj_iconst (q := 1) (v := nI 0) (pj_d p_X3_nextOnShelf 0 rfl) rfl (by decide) ?_
  refine pj_ist4 (q := 3) (pj_d p_X3_nextOnShelf 1 rfl) rfl (by first | rfl | assumption) ?_
  have loop : ∀ m t, τ 1 - t < m → t ≤ τ 1 → gd_nxF (gd_nP τ st S o) (τ 1 - t) t = gd_nx τ st S o → pj_V E B l Y_X3_nextOnShelf 2 0 0 3 [some (.ref f0), some (.ref k), some (.int (nI S)), some (.int (gd_lv o)), some (.int (nI t))] [] h n 0 0 (pj_is (some (.int (gd_lv (gd_nx τ st S o)))) h n) := by
    intro m
    induction m with
    | zero => intro t hi; omega
    | succ m ih =>
      intro t hi hle hn
      refine pj_ild4 (q := 5) (pj_d p_X3_nextOnShelf 2 rfl) rfl ?_
      refine pj_ald1 (q := 6) (pj_d p_X3_nextOnShelf 3 rfl) rfl ?_
      refine pj_cp (pj_rV (q := 9) (c_X9_thingCount hT) (pj_d p_X3_nextOnShelf 4 rfl) rfl kX3_23 o_X9_thingCount (by first | assumption | exact pj_up_s | exact (pj_up_n (by omega)).trans (by assumption)) (by rfl) (by rfl) (by rfl) (by rfl) (Nat.le_of_ble_eq_true rfl) (by decide)) (by decide) (by decide) ?_
      refine pj_icmp_ge (t := 51) (q := 12) (pj_d p_X3_nextOnShelf 5 rfl) rfl (by decide) (fun c1 => ?_) (fun c1 => ?_)
      · have he : t = τ 1 := by have := gd_ge c1 (by omega) (by omega); omega
        rw [he, Nat.sub_self] at hn
        rw [show gd_nx τ st S o = none from hn.symm]
        refine pj_ldc (q := 53) (pj_d p_X3_nextOnShelf 27 rfl) rfl kX3_55 ?_
        refine pj_iret rfl (pj_d p_X3_nextOnShelf 28 rfl) (by decide) (by decide) ?_
        exact ⟨rfl, rfl, rfl⟩
      have hlt : t < τ 1 := gd_lt c1 (by omega)
      rw [show τ 1 - t = (τ 1 - (t + 1)) + 1 by omega, gd_nxF] at hn
      have nx : gd_nP τ st S o t = false → pj_V E B l Y_X3_nextOnShelf 2 0 0 45 [some (.ref f0), some (.ref k), some (.int (nI S)), some (.int (gd_lv o)), some (.int (nI t))] [] h n 0 0 (pj_is (some (.int (gd_lv (gd_nx τ st S o)))) h n) := by
        intro q
        rw [q, if_neg (by decide)] at hn
        refine pj_iinc4 (q := 48) (v := 1) (pj_d p_X3_nextOnShelf 25 rfl) rfl (by first | rfl | assumption) (by decide) ?_
        refine pj_goto (t := 3) (pj_d p_X3_nextOnShelf 26 rfl) (by decide) ?_
        rw [nI_1]
        exact ih (t + 1) (by omega) (by omega) hn
      refine pj_ald0 (q := 13) (pj_d p_X3_nextOnShelf 6 rfl) rfl ?_
      refine pj_ild2 (q := 14) (pj_d p_X3_nextOnShelf 7 rfl) rfl ?_
      refine pj_ild3 (q := 15) (pj_d p_X3_nextOnShelf 8 rfl) rfl ?_
      refine pj_ild4 (q := 17) (pj_d p_X3_nextOnShelf 9 rfl) rfl ?_
      refine pj_cp (pj_rV (q := 20) (c_X3_canFollow F0 F1 hl hW hst S128 hlt ho) (pj_d p_X3_nextOnShelf 10 rfl) rfl kX3_112 o_X3_canFollow (by first | assumption | exact pj_up_s | exact (pj_up_n (by omega)).trans (by assumption)) (by rfl) (by rfl) (by rfl) (by rfl) (Nat.le_of_ble_eq_true rfl) (by decide)) (by decide) (by decide) ?_
      refine pj_if_eq (t := 45) (q := 23) (pj_d p_X3_nextOnShelf 11 rfl) rfl (by decide) (fun c2 => ?_) (fun c2 => ?_)
      · exact nx (by rw [gd_nP, (gd_b_z _).mp c2, Bool.false_and])
      have e := (gd_b_n _).mp c2
      have eb := gd_cf_t e
      have hlt2 := gd_S_lt (τ 1) (by omega) S hS t hlt eb
      have s128 := gd_p128 h7 hlt2
      have ix : (S + 2 ^ t) * 7 + t < 896 := by omega
      have yl := gd_ey_lt (st := st) (S := S + 2 ^ t) (a := t) h7
      refine pj_ald0 (q := 24) (pj_d p_X3_nextOnShelf 12 rfl) rfl ?_
      refine pj_gf (q := 27) (k := 2) (pj_d p_X3_nextOnShelf 13 rfl) rfl kX3_20 (by first | assumption | exact pj_up_s | exact (pj_up_n (by omega)).trans (by assumption)) (by rfl) (by rfl) ?_
      refine pj_ild2 (q := 28) (pj_d p_X3_nextOnShelf 14 rfl) rfl ?_
      refine pj_iconst (q := 29) (v := nI 1) (pj_d p_X3_nextOnShelf 15 rfl) rfl (by decide) ?_
      refine pj_ild4 (q := 31) (pj_d p_X3_nextOnShelf 16 rfl) rfl ?_
      refine pj_ishl (q := 32) (pj_d p_X3_nextOnShelf 17 rfl) rfl ?_
      rw [gd_shl1 t (by omega)]
      refine pj_ior (q := 33) (pj_d p_X3_nextOnShelf 18 rfl) rfl ?_
      rw [gd_or3 S S128 t (by omega) eb]
      refine pj_ild4 (q := 35) (pj_d p_X3_nextOnShelf 19 rfl) rfl ?_
      refine pj_cp (pj_rS (q := 38) (c_X3_placeOfEnding (S + 2 ^ t) t) (pj_d p_X3_nextOnShelf 20 rfl) rfl kX3_103 o_X3_placeOfEnding (by rfl) (by rfl) (Nat.le_of_ble_eq_true rfl) (by decide)) (by decide) (by decide) ?_
      refine pj_ialdN (q := 39) (pj_d p_X3_nextOnShelf 21 rfl) rfl (by first | assumption | exact pj_up_s | exact (pj_up_n (by omega)).trans (by assumption)) (by rfl) (by first | assumption | omega) (Nat.le_of_ble_eq_true rfl) ?_
      rw [hE t hlt eb]
      refine pj_if_le (t := 45) (q := 42) (pj_d p_X3_nextOnShelf 22 rfl) rfl (by decide) (fun c3 => ?_) (fun c3 => ?_)
      · have : ¬ 0 < gd_ey τ st (S + 2 ^ t) t := by
          have : gd_ey τ st (S + 2 ^ t) t ≤ 0 := (nI_leI (by omega) (by omega)).mp (by rw [nI_0]; exact c3)
          omega
        exact nx (by rw [gd_nP, decide_eq_false this, Bool.and_false])
      · have h0 : 0 < gd_ey τ st (S + 2 ^ t) t := by
          have : ¬ gd_ey τ st (S + 2 ^ t) t ≤ 0 := fun q => c3 (by rw [← nI_0]; exact nI_le q (by omega))
          omega
        rw [gd_nP, e, decide_eq_true h0, Bool.and_self, if_pos rfl] at hn
        rw [← hn]
        refine pj_ild4 (q := 44) (pj_d p_X3_nextOnShelf 23 rfl) rfl ?_
        refine pj_iret rfl (pj_d p_X3_nextOnShelf 24 rfl) (by decide) (by decide) ?_
        exact ⟨rfl, rfl, rfl⟩
  exact loop (τ 1 + 1) 0 (by omega) (by omega) rfl
theorem c_X3_waysOn {fl fe : Nat → Int32} {S st a : Nat} (F0 : h f0 = some (.inr (3, [.ref (f0 + 1), .ref (f0 + 2), .ref (f0 + 3)]))) (F1 : h (f0 + 1) = some (.inl (0, 7, .inl fl))) (F3 : h (f0 + 3) = some (.inl (0, 896, .inl fe))) (hl : gd_looked τ st fl) (hT : gd_T h k τ ac) (hW : gd_W τ) (hst : st < 32) (hS : S < 2 ^ τ 1) (hne : ¬ S + 1 = 2 ^ τ 1) (ha : a < τ 1) (hE : ∀ t, t < τ 1 → S / 2 ^ t % 2 = 0 → fe ((S + 2 ^ t) * 7 + t) = nI (gd_ey τ st (S + 2 ^ t) t)) : pj_Ct E B l Y_X3_waysOn 2 0 0 [.ref f0, .ref k, .int (nI S), .int (nI a)] h n (pj_is (some (.int (nI (gd_ey τ st S a)))) h n) := by
  have h7 := hW.1
  have t0 := hT.1
  have S128 := gd_p128 h7 hS
  rw [gd_ey_eq h7 hS, if_neg hne]
  refine pj_in rfl (ls := [some (.ref f0), some (.ref k), some (.int (nI S)), some (.int (nI a)), none, none]) rfl (Nat.le_of_ble_eq_true rfl) ?_
  refine pj_iconst (q := 1) (v := nI 0) (pj_d p_X3_waysOn 0 rfl) rfl (by decide) ?_
  refine pj_ist4 (q := 3) (pj_d p_X3_waysOn 1 rfl) rfl (by first | rfl | assumption) ?_
  refine pj_iconst (q := 4) (v := nI 0) (pj_d p_X3_waysOn 2 rfl) rfl (by decide) ?_
  refine pj_ist5 (q := 6) (pj_d p_X3_waysOn 3 rfl) rfl (by first | rfl | assumption) ?_
  have loop : ∀ m t, τ 1 - t < m → t ≤ τ 1 → pj_V E B l Y_X3_waysOn 2 0 0 6 [some (.ref f0), some (.ref k), some (.int (nI S)), some (.int (nI a)), some (.int (nI (gd_sm (fun t => if gd_cf τ st S (some a) t = true then gd_ey τ st (S + 2 ^ t) t else 0) t))), some (.int (nI t))] [] h n 0 0 (pj_is (some (.int (nI (gd_sm (fun t => if gd_cf τ st S (some a) t = true then gd_ey τ st (S + 2 ^ t) t else 0) (τ 1))))) h n) := by
    intro m
    induction m with
    | zero => intro t hi; omega
    | succ m ih =>
      intro t hi hle
      refine pj_ild5 (q := 8) (pj_d p_X3_waysOn 4 rfl) rfl ?_
      refine pj_ald1 (q := 9) (pj_d p_X3_waysOn 5 rfl) rfl ?_
      refine pj_cp (pj_rV (q := 12) (c_X9_thingCount hT) (pj_d p_X3_waysOn 6 rfl) rfl kX3_23 o_X9_thingCount (by first | assumption | exact pj_up_s | exact (pj_up_n (by omega)).trans (by assumption)) (by rfl) (by rfl) (by rfl) (by rfl) (Nat.le_of_ble_eq_true rfl) (by decide)) (by decide) (by decide) ?_
      refine pj_icmp_ge (t := 53) (q := 15) (pj_d p_X3_waysOn 7 rfl) rfl (by decide) (fun c1 => ?_) (fun c1 => ?_)
      · have he : t = τ 1 := by have := gd_ge c1 (by omega) (by omega); omega
        rw [he]
        refine pj_ild4 (q := 55) (pj_d p_X3_waysOn 29 rfl) rfl ?_
        refine pj_iret rfl (pj_d p_X3_waysOn 30 rfl) (by decide) (by decide) ?_
        exact ⟨rfl, rfl, rfl⟩
      have hlt : t < τ 1 := gd_lt c1 (by omega)
      have nx : ∀ x, x = gd_sm (fun t => if gd_cf τ st S (some a) t = true then gd_ey τ st (S + 2 ^ t) t else 0) (t + 1) → pj_V E B l Y_X3_waysOn 2 0 0 47 [some (.ref f0), some (.ref k), some (.int (nI S)), some (.int (nI a)), some (.int (nI x)), some (.int (nI t))] [] h n 0 0 (pj_is (some (.int (nI (gd_sm (fun t => if gd_cf τ st S (some a) t = true then gd_ey τ st (S + 2 ^ t) t else 0) (τ 1))))) h n) := by
        intro x hx
        rw [hx]
        refine pj_iinc5 (q := 50) (v := 1) (pj_d p_X3_waysOn 27 rfl) rfl (by first | rfl | assumption) (by decide) ?_
        refine pj_goto (t := 6) (pj_d p_X3_waysOn 28 rfl) (by decide) ?_
        rw [nI_1]
        exact ih (t + 1) (by omega) (by omega)
      refine pj_ald0 (q := 16) (pj_d p_X3_waysOn 8 rfl) rfl ?_
      refine pj_ild2 (q := 17) (pj_d p_X3_waysOn 9 rfl) rfl ?_
      refine pj_ild3 (q := 18) (pj_d p_X3_waysOn 10 rfl) rfl ?_
      refine pj_ild5 (q := 20) (pj_d p_X3_waysOn 11 rfl) rfl ?_
      refine pj_cp (pj_rV (q := 23) (c_X3_canFollow (o := some a) F0 F1 hl hW hst S128 hlt (fun z hz => by cases hz; exact ha)) (pj_d p_X3_waysOn 12 rfl) rfl kX3_112 o_X3_canFollow (by first | assumption | exact pj_up_s | exact (pj_up_n (by omega)).trans (by assumption)) (by rfl) (by rfl) (by rfl) (by rfl) (Nat.le_of_ble_eq_true rfl) (by decide)) (by decide) (by decide) ?_
      refine pj_if_eq (t := 47) (q := 26) (pj_d p_X3_waysOn 13 rfl) rfl (by decide) (fun c2 => ?_) (fun c2 => ?_)
      · have e := (gd_b_z _).mp c2
        exact nx _ (by rw [gd_sm, e, if_neg (by decide)]; rfl)
      have e := (gd_b_n _).mp c2
      have eb := gd_cf_t e
      have hlt2 := gd_S_lt (τ 1) (by omega) S hS t hlt eb
      have s128 := gd_p128 h7 hlt2
      have ix : (S + 2 ^ t) * 7 + t < 896 := by omega
      refine pj_ild4 (q := 28) (pj_d p_X3_waysOn 14 rfl) rfl ?_
      refine pj_ald0 (q := 29) (pj_d p_X3_waysOn 15 rfl) rfl ?_
      refine pj_gf (q := 32) (k := 2) (pj_d p_X3_waysOn 16 rfl) rfl kX3_20 (by first | assumption | exact pj_up_s | exact (pj_up_n (by omega)).trans (by assumption)) (by rfl) (by rfl) ?_
      refine pj_ild2 (q := 33) (pj_d p_X3_waysOn 17 rfl) rfl ?_
      refine pj_iconst (q := 34) (v := nI 1) (pj_d p_X3_waysOn 18 rfl) rfl (by decide) ?_
      refine pj_ild5 (q := 36) (pj_d p_X3_waysOn 19 rfl) rfl ?_
      refine pj_ishl (q := 37) (pj_d p_X3_waysOn 20 rfl) rfl ?_
      rw [gd_shl1 t (by omega)]
      refine pj_ior (q := 38) (pj_d p_X3_waysOn 21 rfl) rfl ?_
      rw [gd_or3 S S128 t (by omega) eb]
      refine pj_ild5 (q := 40) (pj_d p_X3_waysOn 22 rfl) rfl ?_
      refine pj_cp (pj_rS (q := 43) (c_X3_placeOfEnding (S + 2 ^ t) t) (pj_d p_X3_waysOn 23 rfl) rfl kX3_103 o_X3_placeOfEnding (by rfl) (by rfl) (Nat.le_of_ble_eq_true rfl) (by decide)) (by decide) (by decide) ?_
      refine pj_ialdN (q := 44) (pj_d p_X3_waysOn 24 rfl) rfl (by first | assumption | exact pj_up_s | exact (pj_up_n (by omega)).trans (by assumption)) (by rfl) (by first | assumption | omega) (Nat.le_of_ble_eq_true rfl) ?_
      rw [hE t hlt eb]
      refine pj_iadd (q := 45) (pj_d p_X3_waysOn 25 rfl) rfl ?_
      rw [nI_add]
      refine pj_ist4 (q := 47) (pj_d p_X3_waysOn 26 rfl) rfl (by first | rfl | assumption) ?_
      exact nx _ (by rw [gd_sm, e, if_pos rfl])
  exact loop (τ 1 + 1) 0 (by omega) (by omega)
theorem gd_c3 {S a s i : Nat} (ha : a < 7) (hi : i < 7) (h : ¬ (S = s ∧ a = i)) : S * 7 + a ≠ s * 7 + i := by omega
theorem c_X3_countEndings (hF : gd_F h f0) (hT : gd_T h k τ ac) (hW : gd_W τ) (hk : f0 + 3 < k) {d : Nat} (hd : d ≤ 1000) : pj_Ct E B l Y_X3_countEndings 5 0 0 [.ref f0, .ref k, .int (nI d)] h n (fun r h' n' => r = none ∧ n' = n ∧ ∃ f fe, h' = pj_up (pj_up h (f0 + 1) (.inl (0, 7, .inl f))) (f0 + 3) (.inl (0, 896, .inl fe)) ∧ gd_looked τ (gd_miss τ d) f ∧ ∀ S, 0 < S → S < 2 ^ τ 1 → ∀ a, a < τ 1 → fe (S * 7 + a) = nI (gd_ey τ (gd_miss τ d) S a)) := by
  have h7 := hW.1
  have t0 := hT.1
  have F0 := hF.1
  have hs := gd_miss_lt hW d
  obtain ⟨fe0, F3⟩ := hF.2.2.2
  refine pj_in rfl (ls := [some (.ref f0), some (.ref k), some (.int (nI d)), none, none, none]) rfl (Nat.le_of_ble_eq_true rfl) ?_
  refine pj_ald0 (q := 1) (pj_d p_X3_countEndings 0 rfl) rfl ?_
  refine pj_ald1 (q := 2) (pj_d p_X3_countEndings 1 rfl) rfl ?_
  refine pj_ald1 (q := 3) (pj_d p_X3_countEndings 2 rfl) rfl ?_
  refine pj_ild2 (q := 4) (pj_d p_X3_countEndings 3 rfl) rfl ?_
  refine pj_cp (pj_rV (q := 7) (c_X9_missingIn hT hW hd) (pj_d p_X3_countEndings 4 rfl) rfl kX3_37 o_X9_missingIn (by first | assumption | exact pj_up_s | exact (pj_up_n (by omega)).trans (by assumption)) (by rfl) (by rfl) (by rfl) (by rfl) (Nat.le_of_ble_eq_true rfl) (by decide)) (by decide) (by decide) ?_
  refine pj_cv (pj_rV (q := 10) (c_X3_lookAt hF hT hW hk hs) (pj_d p_X3_countEndings 5 rfl) rfl kX3_40 o_X3_lookAt (by first | assumption | exact pj_up_s | exact (pj_up_n (by omega)).trans (by assumption)) (by rfl) (by rfl) (by rfl) (by rfl) (Nat.le_of_ble_eq_true rfl) (by decide)) (by decide) (by decide) ?_
  rintro r1 h1 n1 ⟨rfl, rfl, f, rfl, hf⟩
  generalize gd_miss τ d = st at hs hf ⊢
  show pj_V E B l Y_X3_countEndings 5 0 0 10 [some (.ref f0), some (.ref k), some (.int (nI d)), none, none, none] [] (pj_up h (f0 + 1) (.inl (0, 7, .inl f))) n1 0 0 (fun r h' n' => r = none ∧ n' = n1 ∧ ∃ f fe, h' = pj_up (pj_up h (f0 + 1) (.inl (0, 7, .inl f))) (f0 + 3) (.inl (0, 896, .inl fe)) ∧ gd_looked τ st f ∧ ∀ S, 0 < S → S < 2 ^ τ 1 → ∀ a, a < τ 1 → fe (S * 7 + a) = nI (gd_ey τ st S a))
  have hT1 : gd_T (pj_up h (f0 + 1) (.inl (0, 7, .inl f))) k τ ac := hT.up (by omega)
  have t1 := hT1.1
  have pw : 1 ≤ 2 ^ τ 1 := Nat.pow_pos (by omega)
  have pw7 : 2 ^ τ 1 ≤ 128 := Nat.pow_le_pow_right (n := 2) (by omega) h7
  refine pj_iconst (q := 11) (v := nI 1) (pj_d p_X3_countEndings 6 rfl) rfl (by decide) ?_
  refine pj_ald1 (q := 12) (pj_d p_X3_countEndings 7 rfl) rfl ?_
  refine pj_cp (pj_rV (q := 15) (c_X9_thingCount hT1) (pj_d p_X3_countEndings 8 rfl) rfl kX3_23 o_X9_thingCount (by first | assumption | exact pj_up_s | exact (pj_up_n (by omega)).trans (by assumption)) (by rfl) (by rfl) (by rfl) (by rfl) (Nat.le_of_ble_eq_true rfl) (by decide)) (by decide) (by decide) ?_
  refine pj_ishl (q := 16) (pj_d p_X3_countEndings 9 rfl) rfl ?_
  rw [gd_shl1 (τ 1) (by omega)]
  refine pj_iconst (q := 17) (v := nI 1) (pj_d p_X3_countEndings 10 rfl) rfl (by decide) ?_
  refine pj_isub (q := 18) (pj_d p_X3_countEndings 11 rfl) rfl ?_
  rw [gd_sub pw]
  refine pj_ist3 (q := 19) (pj_d p_X3_countEndings 12 rfl) rfl (by first | rfl | assumption) ?_
  refine pj_ild3 (q := 20) (pj_d p_X3_countEndings 13 rfl) rfl ?_
  refine pj_ist4 (q := 22) (pj_d p_X3_countEndings 14 rfl) rfl (by first | rfl | assumption) ?_
  have loop : ∀ s fe (o5 : Option Value), s < 2 ^ τ 1 → (∀ S, s < S → S < 2 ^ τ 1 → ∀ a, a < τ 1 → fe (S * 7 + a) = nI (gd_ey τ st S a)) → pj_V E B l Y_X3_countEndings 5 0 0 22 [some (.ref f0), some (.ref k), some (.int (nI d)), some (.int (nI (2 ^ τ 1 - 1))), some (.int (nI s)), o5] [] (pj_up (pj_up h (f0 + 1) (.inl (0, 7, .inl f))) (f0 + 3) (.inl (0, 896, .inl fe))) n1 0 0 (fun r h' n' => r = none ∧ n' = n1 ∧ ∃ f fe, h' = pj_up (pj_up h (f0 + 1) (.inl (0, 7, .inl f))) (f0 + 3) (.inl (0, 896, .inl fe)) ∧ gd_looked τ st f ∧ ∀ S, 0 < S → S < 2 ^ τ 1 → ∀ a, a < τ 1 → fe (S * 7 + a) = nI (gd_ey τ st S a)) := by
    intro s
    induction s with
    | zero =>
      intro fe o5 hsl hE
      refine pj_ild4 (q := 24) (pj_d p_X3_countEndings 15 rfl) rfl ?_
      refine pj_if_le (t := 82) (q := 27) (pj_d p_X3_countEndings 16 rfl) rfl (by decide) (fun c1 => ?_) (fun c1 => ?_)
      · refine pj_vret rfl (pj_d p_X3_countEndings 43 rfl) (by decide) (by decide) ?_
        exact ⟨rfl, rfl, f, fe, rfl, hf, hE⟩
      · exact absurd (show nI 0 ≤ 0 by decide) c1
    | succ s ih =>
      intro fe o5 hsl hE
      have s128 : s + 1 < 128 := by omega
      refine pj_ild4 (q := 24) (pj_d p_X3_countEndings 15 rfl) rfl ?_
      refine pj_if_le (t := 82) (q := 27) (pj_d p_X3_countEndings 16 rfl) rfl (by decide) (fun c1 => ?_) (fun c1 => ?_)
      · have : s + 1 ≤ 0 := (nI_leI (by omega) (by omega)).mp (by rw [nI_0]; exact c1)
        omega
      refine pj_iconst (q := 28) (v := nI 0) (pj_d p_X3_countEndings 17 rfl) rfl (by decide) ?_
      refine pj_ist5 (q := 30) (pj_d p_X3_countEndings 18 rfl) rfl (by first | rfl | assumption) ?_
      have inner : ∀ m i fe, τ 1 - i < m → i ≤ τ 1 → (∀ S, s + 1 < S → S < 2 ^ τ 1 → ∀ a, a < τ 1 → fe (S * 7 + a) = nI (gd_ey τ st S a)) → (∀ a, a < i → fe ((s + 1) * 7 + a) = nI (gd_ey τ st (s + 1) a)) → pj_V E B l Y_X3_countEndings 5 0 0 30 [some (.ref f0), some (.ref k), some (.int (nI d)), some (.int (nI (2 ^ τ 1 - 1))), some (.int (nI (s + 1))), some (.int (nI i))] [] (pj_up (pj_up h (f0 + 1) (.inl (0, 7, .inl f))) (f0 + 3) (.inl (0, 896, .inl fe))) n1 0 0 (fun r h' n' => r = none ∧ n' = n1 ∧ ∃ f fe, h' = pj_up (pj_up h (f0 + 1) (.inl (0, 7, .inl f))) (f0 + 3) (.inl (0, 896, .inl fe)) ∧ gd_looked τ st f ∧ ∀ S, 0 < S → S < 2 ^ τ 1 → ∀ a, a < τ 1 → fe (S * 7 + a) = nI (gd_ey τ st S a)) := by
        intro m
        induction m with
        | zero => intro i fe hi; omega
        | succ m ih2 =>
          intro i fe hi hle hE hD
          have hT2 : gd_T (pj_up (pj_up h (f0 + 1) (.inl (0, 7, .inl f))) (f0 + 3) (.inl (0, 896, .inl fe))) k τ ac := hT1.up (by omega)
          have t2 := hT2.1
          have G0 : pj_up (pj_up h (f0 + 1) (.inl (0, 7, .inl f))) (f0 + 3) (.inl (0, 896, .inl fe)) f0 = some (.inr (3, [.ref (f0 + 1), .ref (f0 + 2), .ref (f0 + 3)])) := by rw [pj_up_n (by omega), pj_up_n (by omega)]; exact F0
          have G1 : pj_up (pj_up h (f0 + 1) (.inl (0, 7, .inl f))) (f0 + 3) (.inl (0, 896, .inl fe)) (f0 + 1) = some (.inl (0, 7, .inl f)) := by rw [pj_up_n (by omega), pj_up_s]
          have G3 : pj_up (pj_up h (f0 + 1) (.inl (0, 7, .inl f))) (f0 + 3) (.inl (0, 896, .inl fe)) (f0 + 3) = some (.inl (0, 896, .inl fe)) := pj_up_s
          refine pj_ild5 (q := 32) (pj_d p_X3_countEndings 19 rfl) rfl ?_
          refine pj_ald1 (q := 33) (pj_d p_X3_countEndings 20 rfl) rfl ?_
          refine pj_cp (pj_rV (q := 36) (c_X9_thingCount hT2) (pj_d p_X3_countEndings 21 rfl) rfl kX3_23 o_X9_thingCount (by first | assumption | exact pj_up_s | exact (pj_up_n (by omega)).trans (by assumption)) (by rfl) (by rfl) (by rfl) (by rfl) (Nat.le_of_ble_eq_true rfl) (by decide)) (by decide) (by decide) ?_
          refine pj_icmp_ge (t := 76) (q := 39) (pj_d p_X3_countEndings 22 rfl) rfl (by decide) (fun c2 => ?_) (fun c2 => ?_)
          · have he : i = τ 1 := by have := gd_ge c2 (by omega) (by omega); omega
            rw [he] at hD
            refine pj_iinc4 (q := 79) (v := (-1)) (pj_d p_X3_countEndings 41 rfl) rfl (by first | rfl | assumption) (by decide) ?_
            refine pj_goto (t := 22) (pj_d p_X3_countEndings 42 rfl) (by decide) ?_
            rw [gd_m1]
            refine ih fe _ (by omega) (fun S h1 h2 a h3 => ?_)
            by_cases q : S = s + 1
            · rw [q]; exact hD a h3
            · exact hE S (by omega) h2 a h3
          have hlt : i < τ 1 := gd_lt c2 (by omega)
          have ix : (s + 1) * 7 + i < 896 := by omega
          have put : ∀ y, y = gd_ey τ st (s + 1) i → pj_V E B l Y_X3_countEndings 5 0 0 69 [some (.ref f0), some (.ref k), some (.int (nI d)), some (.int (nI (2 ^ τ 1 - 1))), some (.int (nI (s + 1))), some (.int (nI i))] [.int (nI y), .int (nI ((s + 1) * 7 + i)), .ref (f0 + 3)] (pj_up (pj_up h (f0 + 1) (.inl (0, 7, .inl f))) (f0 + 3) (.inl (0, 896, .inl fe))) n1 0 0 (fun r h' n' => r = none ∧ n' = n1 ∧ ∃ f fe, h' = pj_up (pj_up h (f0 + 1) (.inl (0, 7, .inl f))) (f0 + 3) (.inl (0, 896, .inl fe)) ∧ gd_looked τ st f ∧ ∀ S, 0 < S → S < 2 ^ τ 1 → ∀ a, a < τ 1 → fe (S * 7 + a) = nI (gd_ey τ st S a)) := by
            intro y hy
            refine pj_iast (q := 70) (pj_d p_X3_countEndings 38 rfl) rfl (by first | assumption | exact pj_up_s | exact (pj_up_n (by omega)).trans (by assumption)) (by rfl) (by first | assumption | omega) (Nat.le_of_ble_eq_true rfl) ?_
            rw [pj_up_up]
            refine pj_iinc5 (q := 73) (v := 1) (pj_d p_X3_countEndings 39 rfl) rfl (by first | rfl | assumption) (by decide) ?_
            refine pj_goto (t := 30) (pj_d p_X3_countEndings 40 rfl) (by decide) ?_
            rw [nI_1]
            refine ih2 (i + 1) _ (by omega) (by omega) (fun S h1 h2 a h3 => ?_) (fun a h3 => ?_)
            · rw [gd_upd_n (gd_c3 (by omega) (by omega) (fun q => by omega))]; exact hE S h1 h2 a h3
            · by_cases q : a = i
              · rw [q, gd_upd_s, hy]
              · rw [gd_upd_n (gd_c3 (by omega) (by omega) (fun z => q z.2))]; exact hD a (by omega)
          refine pj_ald0 (q := 40) (pj_d p_X3_countEndings 23 rfl) rfl ?_
          refine pj_gf (q := 43) (k := 2) (pj_d p_X3_countEndings 24 rfl) rfl kX3_20 (by first | assumption | exact pj_up_s | exact (pj_up_n (by omega)).trans (by assumption)) (by rfl) (by rfl) ?_
          refine pj_ild4 (q := 45) (pj_d p_X3_countEndings 25 rfl) rfl ?_
          refine pj_ild5 (q := 47) (pj_d p_X3_countEndings 26 rfl) rfl ?_
          refine pj_cp (pj_rS (q := 50) (c_X3_placeOfEnding (s + 1) i) (pj_d p_X3_countEndings 27 rfl) rfl kX3_103 o_X3_placeOfEnding (by rfl) (by rfl) (Nat.le_of_ble_eq_true rfl) (by decide)) (by decide) (by decide) ?_
          refine pj_ild4 (q := 52) (pj_d p_X3_countEndings 28 rfl) rfl ?_
          refine pj_ild3 (q := 53) (pj_d p_X3_countEndings 29 rfl) rfl ?_
          refine pj_icmp_ne (t := 60) (q := 56) (pj_d p_X3_countEndings 30 rfl) rfl (by decide) (fun c3 => ?_) (fun c3 => ?_)
          · have hne : ¬ s + 1 + 1 = 2 ^ τ 1 := fun q => c3 (by rw [← q]; rfl)
            refine pj_ald0 (q := 61) (pj_d p_X3_countEndings 33 rfl) rfl ?_
            refine pj_ald1 (q := 62) (pj_d p_X3_countEndings 34 rfl) rfl ?_
            refine pj_ild4 (q := 64) (pj_d p_X3_countEndings 35 rfl) rfl ?_
            refine pj_ild5 (q := 66) (pj_d p_X3_countEndings 36 rfl) rfl ?_
            refine pj_cp (pj_rV (q := 69) (c_X3_waysOn G0 G1 G3 hf hT2 hW hs hsl hne hlt (fun t ht hb => hE _ (by have : 1 ≤ 2 ^ t := Nat.pow_pos (by omega); omega) (gd_S_lt (τ 1) (by omega) (s + 1) hsl t ht hb) t ht)) (pj_d p_X3_countEndings 37 rfl) rfl kX3_109 o_X3_waysOn (by first | assumption | exact pj_up_s | exact (pj_up_n (by omega)).trans (by assumption)) (by rfl) (by rfl) (by rfl) (by rfl) (Nat.le_of_ble_eq_true rfl) (by decide)) (by decide) (by decide) ?_
            exact put _ rfl
          · have heq : s + 1 = 2 ^ τ 1 - 1 := (nI_eq (by omega) (by omega)).mp c3
            refine pj_iconst (q := 57) (v := nI 1) (pj_d p_X3_countEndings 31 rfl) rfl (by decide) ?_
            refine pj_goto (t := 69) (pj_d p_X3_countEndings 32 rfl) (by decide) ?_
            exact put 1 (by rw [gd_ey_eq h7 hsl, if_pos (by omega)])
      exact inner (τ 1 + 1) 0 fe (by omega) (by omega) hE (fun a h3 => absurd h3 (Nat.not_lt_zero a))
  have := loop (2 ^ τ 1 - 1) fe0 none (by omega) (fun S h1 h2 => by omega)
  rw [pj_up_id ((pj_up_n (by omega)).trans F3)] at this
  exact this
theorem c_X3_countOrders (hF : gd_F h f0) (hT : gd_T h k τ ac) (hW : gd_W τ) (hk : f0 + 3 < k) {d : Nat} (hd : d ≤ 1000) : pj_Ct E B l Y_X3_countOrders 6 0 0 [.ref f0, .ref k, .int (nI d)] h n (gd_s2 (nI (if τ 1 = 0 then 1 else gd_so τ (gd_miss τ d))) h f0 n) := by
  have h7 := hW.1
  have F0 := hF.1
  have t0 := hT.1
  refine pj_in rfl (ls := [some (.ref f0), some (.ref k), some (.int (nI d)), none, none]) rfl (Nat.le_of_ble_eq_true rfl) ?_
  refine pj_ald0 (q := 1) (pj_d p_X3_countOrders 0 rfl) rfl ?_
  refine pj_ald1 (q := 2) (pj_d p_X3_countOrders 1 rfl) rfl ?_
  refine pj_ild2 (q := 3) (pj_d p_X3_countOrders 2 rfl) rfl ?_
  refine pj_cv (pj_rV (q := 6) (c_X3_countEndings hF hT hW hk hd) (pj_d p_X3_countOrders 3 rfl) rfl kX3_100 o_X3_countEndings (by first | assumption | exact pj_up_s | exact (pj_up_n (by omega)).trans (by assumption)) (by rfl) (by rfl) (by rfl) (by rfl) (Nat.le_of_ble_eq_true rfl) (by decide)) (by decide) (by decide) ?_
  rintro r1 h1 n1 ⟨rfl, rfl, f, fe, rfl, hf, hE⟩
  generalize gd_miss τ d = st at hf hE ⊢
  show pj_V E B l Y_X3_countOrders 6 0 0 6 [some (.ref f0), some (.ref k), some (.int (nI d)), none, none] [] (pj_up (pj_up h (f0 + 1) (.inl (0, 7, .inl f))) (f0 + 3) (.inl (0, 896, .inl fe))) n1 0 0 (gd_s2 (nI (if τ 1 = 0 then 1 else gd_so τ st)) h f0 n1)
  have hT2 : gd_T (pj_up (pj_up h (f0 + 1) (.inl (0, 7, .inl f))) (f0 + 3) (.inl (0, 896, .inl fe))) k τ ac := (hT.up (by omega)).up (by omega)
  have t2 := hT2.1
  have G0 : pj_up (pj_up h (f0 + 1) (.inl (0, 7, .inl f))) (f0 + 3) (.inl (0, 896, .inl fe)) f0 = some (.inr (3, [.ref (f0 + 1), .ref (f0 + 2), .ref (f0 + 3)])) := by rw [pj_up_n (by omega), pj_up_n (by omega)]; exact F0
  refine pj_iconst (q := 7) (v := nI 0) (pj_d p_X3_countOrders 4 rfl) rfl (by decide) ?_
  refine pj_ist3 (q := 8) (pj_d p_X3_countOrders 5 rfl) rfl (by first | rfl | assumption) ?_
  refine pj_iconst (q := 9) (v := nI 0) (pj_d p_X3_countOrders 6 rfl) rfl (by decide) ?_
  refine pj_ist4 (q := 11) (pj_d p_X3_countOrders 7 rfl) rfl (by first | rfl | assumption) ?_
  have loop : ∀ m t, τ 1 - t < m → t ≤ τ 1 → pj_V E B l Y_X3_countOrders 6 0 0 11 [some (.ref f0), some (.ref k), some (.int (nI d)), some (.int (nI (gd_sm (fun t => gd_ey τ st (2 ^ t) t) t))), some (.int (nI t))] [] (pj_up (pj_up h (f0 + 1) (.inl (0, 7, .inl f))) (f0 + 3) (.inl (0, 896, .inl fe))) n1 0 0 (gd_s2 (nI (if τ 1 = 0 then 1 else gd_so τ st)) h f0 n1) := by
    intro m
    induction m with
    | zero => intro t hi; omega
    | succ m ih =>
      intro t hi hle
      refine pj_ild4 (q := 13) (pj_d p_X3_countOrders 8 rfl) rfl ?_
      refine pj_ald1 (q := 14) (pj_d p_X3_countOrders 9 rfl) rfl ?_
      refine pj_cp (pj_rV (q := 17) (c_X9_thingCount hT2) (pj_d p_X3_countOrders 10 rfl) rfl kX3_23 o_X9_thingCount (by first | assumption | exact pj_up_s | exact (pj_up_n (by omega)).trans (by assumption)) (by rfl) (by rfl) (by rfl) (by rfl) (Nat.le_of_ble_eq_true rfl) (by decide)) (by decide) (by decide) ?_
      refine pj_icmp_ge (t := 43) (q := 20) (pj_d p_X3_countOrders 11 rfl) rfl (by decide) (fun c1 => ?_) (fun c1 => ?_)
      · have he : t = τ 1 := by have := gd_ge c1 (by omega) (by omega); omega
        rw [he]
        refine pj_ald1 (q := 44) (pj_d p_X3_countOrders 25 rfl) rfl ?_
        refine pj_cp (pj_rV (q := 47) (c_X9_thingCount hT2) (pj_d p_X3_countOrders 26 rfl) rfl kX3_23 o_X9_thingCount (by first | assumption | exact pj_up_s | exact (pj_up_n (by omega)).trans (by assumption)) (by rfl) (by rfl) (by rfl) (by rfl) (Nat.le_of_ble_eq_true rfl) (by decide)) (by decide) (by decide) ?_
        refine pj_if_ne (t := 54) (q := 50) (pj_d p_X3_countOrders 27 rfl) rfl (by decide) (fun c2 => ?_) (fun c2 => ?_)
        · have : ¬ τ 1 = 0 := fun q => c2 (by rw [q]; rfl)
          rw [if_neg this]
          refine pj_ild3 (q := 55) (pj_d p_X3_countOrders 30 rfl) rfl ?_
          refine pj_iret rfl (pj_d p_X3_countOrders 31 rfl) (by decide) (by decide) ?_
          exact ⟨rfl, rfl, f, fe, rfl⟩
        · have : τ 1 = 0 := (nI_eq (by omega) (by omega)).mp (c2.trans nI_0.symm)
          rw [if_pos this]
          refine pj_iconst (q := 51) (v := nI 1) (pj_d p_X3_countOrders 28 rfl) rfl (by decide) ?_
          refine pj_goto (t := 55) (pj_d p_X3_countOrders 29 rfl) (by decide) ?_
          refine pj_iret rfl (pj_d p_X3_countOrders 31 rfl) (by decide) (by decide) ?_
          exact ⟨rfl, rfl, f, fe, rfl⟩
      have hlt : t < τ 1 := gd_lt c1 (by omega)
      have p1 : 1 ≤ 2 ^ t := Nat.pow_pos (by omega)
      have p2 : 2 ^ t < 2 ^ τ 1 := Nat.pow_lt_pow_right (by omega) hlt
      have p3 := gd_p128 h7 p2
      have ix : 2 ^ t * 7 + t < 896 := by omega
      refine pj_ild3 (q := 21) (pj_d p_X3_countOrders 12 rfl) rfl ?_
      refine pj_ald0 (q := 22) (pj_d p_X3_countOrders 13 rfl) rfl ?_
      refine pj_gf (q := 25) (k := 2) (pj_d p_X3_countOrders 14 rfl) rfl kX3_20 (by first | assumption | exact pj_up_s | exact (pj_up_n (by omega)).trans (by assumption)) (by rfl) (by rfl) ?_
      refine pj_iconst (q := 26) (v := nI 1) (pj_d p_X3_countOrders 15 rfl) rfl (by decide) ?_
      refine pj_ild4 (q := 28) (pj_d p_X3_countOrders 16 rfl) rfl ?_
      refine pj_ishl (q := 29) (pj_d p_X3_countOrders 17 rfl) rfl ?_
      rw [gd_shl1 t (by omega)]
      refine pj_ild4 (q := 31) (pj_d p_X3_countOrders 18 rfl) rfl ?_
      refine pj_cp (pj_rS (q := 34) (c_X3_placeOfEnding (2 ^ t) t) (pj_d p_X3_countOrders 19 rfl) rfl kX3_103 o_X3_placeOfEnding (by rfl) (by rfl) (Nat.le_of_ble_eq_true rfl) (by decide)) (by decide) (by decide) ?_
      refine pj_ialdN (q := 35) (pj_d p_X3_countOrders 20 rfl) rfl (by first | assumption | exact pj_up_s | exact (pj_up_n (by omega)).trans (by assumption)) (by rfl) (by first | assumption | omega) (Nat.le_of_ble_eq_true rfl) ?_
      rw [hE (2 ^ t) (by omega) p2 t hlt]
      refine pj_iadd (q := 36) (pj_d p_X3_countOrders 21 rfl) rfl ?_
      rw [nI_add]
      refine pj_ist3 (q := 37) (pj_d p_X3_countOrders 22 rfl) rfl (by first | rfl | assumption) ?_
      refine pj_iinc4 (q := 40) (v := 1) (pj_d p_X3_countOrders 23 rfl) rfl (by first | rfl | assumption) (by decide) ?_
      refine pj_goto (t := 11) (pj_d p_X3_countOrders 24 rfl) (by decide) ?_
      rw [nI_1]
      exact ih (t + 1) (by omega) (by omega)
  exact loop (τ 1 + 1) 0 (by omega) (by omega)
theorem c_X3_placeOfFirstOrder (hF : gd_F h f0) (hT : gd_T h k τ ac) (hW : gd_W τ) (hk : f0 + 3 < k) {d j : Nat} (hd : d ≤ 1000) (hj : j ≤ 6) : pj_Ct E B l Y_X3_placeOfFirstOrder 6 0 0 [.ref f0, .ref k, .int (nI d), .int (nI j)] h n (gd_s2 (gd_sk τ (gd_miss τ d) j) h f0 n) := by
  have h7 := hW.1
  have F0 := hF.1
  have t0 := hT.1
  have hs := gd_miss_lt hW d
  refine pj_in rfl (ls := [some (.ref f0), some (.ref k), some (.int (nI d)), some (.int (nI j)), none, none, none]) rfl (Nat.le_of_ble_eq_true rfl) ?_
  refine pj_ald0 (q := 1) (pj_d p_X3_placeOfFirstOrder 0 rfl) rfl ?_
  refine pj_ald1 (q := 2) (pj_d p_X3_placeOfFirstOrder 1 rfl) rfl ?_
  refine pj_ild2 (q := 3) (pj_d p_X3_placeOfFirstOrder 2 rfl) rfl ?_
  refine pj_cv (pj_rV (q := 6) (c_X3_countEndings hF hT hW hk hd) (pj_d p_X3_placeOfFirstOrder 3 rfl) rfl kX3_100 o_X3_countEndings (by first | assumption | exact pj_up_s | exact (pj_up_n (by omega)).trans (by assumption)) (by rfl) (by rfl) (by rfl) (by rfl) (Nat.le_of_ble_eq_true rfl) (by decide)) (by decide) (by decide) ?_
  rintro r1 h1 n1 ⟨rfl, rfl, f, fe, rfl, hf, hE⟩
  generalize gd_miss τ d = st at hs hf hE ⊢
  show pj_V E B l Y_X3_placeOfFirstOrder 6 0 0 6 [some (.ref f0), some (.ref k), some (.int (nI d)), some (.int (nI j)), none, none, none] [] (pj_up (pj_up h (f0 + 1) (.inl (0, 7, .inl f))) (f0 + 3) (.inl (0, 896, .inl fe))) n1 0 0 (gd_s2 (gd_sk τ st j) h f0 n1)
  have hT2 : gd_T (pj_up (pj_up h (f0 + 1) (.inl (0, 7, .inl f))) (f0 + 3) (.inl (0, 896, .inl fe))) k τ ac := (hT.up (by omega)).up (by omega)
  have t2 := hT2.1
  have G0 : pj_up (pj_up h (f0 + 1) (.inl (0, 7, .inl f))) (f0 + 3) (.inl (0, 896, .inl fe)) f0 = some (.inr (3, [.ref (f0 + 1), .ref (f0 + 2), .ref (f0 + 3)])) := by rw [pj_up_n (by omega), pj_up_n (by omega)]; exact F0
  have G1 : pj_up (pj_up h (f0 + 1) (.inl (0, 7, .inl f))) (f0 + 3) (.inl (0, 896, .inl fe)) (f0 + 1) = some (.inl (0, 7, .inl f)) := by rw [pj_up_n (by omega), pj_up_s]
  have G3 : pj_up (pj_up h (f0 + 1) (.inl (0, 7, .inl f))) (f0 + 3) (.inl (0, 896, .inl fe)) (f0 + 3) = some (.inl (0, 896, .inl fe)) := pj_up_s
  refine pj_ild3 (q := 7) (pj_d p_X3_placeOfFirstOrder 4 rfl) rfl ?_
  refine pj_ald1 (q := 8) (pj_d p_X3_placeOfFirstOrder 5 rfl) rfl ?_
  refine pj_cp (pj_rV (q := 11) (c_X9_thingCount hT2) (pj_d p_X3_placeOfFirstOrder 6 rfl) rfl kX3_23 o_X9_thingCount (by first | assumption | exact pj_up_s | exact (pj_up_n (by omega)).trans (by assumption)) (by rfl) (by rfl) (by rfl) (by rfl) (Nat.le_of_ble_eq_true rfl) (by decide)) (by decide) (by decide) ?_
  refine pj_icmp_lt (t := 17) (q := 14) (pj_d p_X3_placeOfFirstOrder 7 rfl) rfl (by decide) (fun c1 => ?_) (fun c1 => ?_)
  rotate_left
  · have : ¬ j < τ 1 := fun q => c1 (nI_lt q (by omega))
    refine pj_ldc (q := 16) (pj_d p_X3_placeOfFirstOrder 8 rfl) rfl kX3_55 ?_
    refine pj_iret rfl (pj_d p_X3_placeOfFirstOrder 9 rfl) (by decide) (by decide) ?_
    exact ⟨by rw [gd_sk, if_neg this], rfl, f, fe, rfl⟩
  have hjT : j < τ 1 := (nI_ltI (by omega) (by omega)).mp c1
  refine pj_iconst (q := 18) (v := nI 0) (pj_d p_X3_placeOfFirstOrder 10 rfl) rfl (by decide) ?_
  refine pj_ist4 (q := 20) (pj_d p_X3_placeOfFirstOrder 11 rfl) rfl (by first | rfl | assumption) ?_
  refine pj_ldc (q := 22) (pj_d p_X3_placeOfFirstOrder 12 rfl) rfl kX3_55 ?_
  refine pj_ist5 (q := 24) (pj_d p_X3_placeOfFirstOrder 13 rfl) rfl (by first | rfl | assumption) ?_
  refine pj_iconst (q := 25) (v := nI 0) (pj_d p_X3_placeOfFirstOrder 14 rfl) rfl (by decide) ?_
  refine pj_ist6 (q := 27) (pj_d p_X3_placeOfFirstOrder 15 rfl) rfl (by first | rfl | assumption) ?_
  have loop : ∀ m i S o, gd_shf τ st i = some (S, o) → S < 2 ^ τ 1 → (∀ a, o = some a → a < τ 1) → j + 1 - i < m → i ≤ j + 1 → pj_V E B l Y_X3_placeOfFirstOrder 6 0 0 27 [some (.ref f0), some (.ref k), some (.int (nI d)), some (.int (nI j)), some (.int (nI S)), some (.int (gd_lv o)), some (.int (nI i))] [] (pj_up (pj_up h (f0 + 1) (.inl (0, 7, .inl f))) (f0 + 3) (.inl (0, 896, .inl fe))) n1 0 0 (gd_s2 (gd_sk τ st j) h f0 n1) := by
    intro m
    induction m with
    | zero => intro i S o _ _ _ hi; omega
    | succ m ih =>
      intro i S o hq hS ho hi hle
      have S128 := gd_p128 h7 hS
      refine pj_ild6 (q := 29) (pj_d p_X3_placeOfFirstOrder 16 rfl) rfl ?_
      refine pj_ild3 (q := 30) (pj_d p_X3_placeOfFirstOrder 17 rfl) rfl ?_
      refine pj_icmp_gt (t := 69) (q := 33) (pj_d p_X3_placeOfFirstOrder 18 rfl) rfl (by decide) (fun c2 => ?_) (fun c2 => ?_)
      · have he : i = j + 1 := by have := (nI_ltI (by omega) (by omega)).mp c2; omega
        rw [he] at hq
        rw [gd_sk_s hjT hq]
        refine pj_ild5 (q := 71) (pj_d p_X3_placeOfFirstOrder 38 rfl) rfl ?_
        refine pj_iret rfl (pj_d p_X3_placeOfFirstOrder 39 rfl) (by decide) (by decide) ?_
        exact ⟨rfl, rfl, f, fe, rfl⟩
      have hij : i ≤ j := by
        have : ¬ j < i := fun q => c2 (nI_lt q (by omega))
        omega
      refine pj_ald0 (q := 34) (pj_d p_X3_placeOfFirstOrder 19 rfl) rfl ?_
      refine pj_ald1 (q := 35) (pj_d p_X3_placeOfFirstOrder 20 rfl) rfl ?_
      refine pj_ild4 (q := 37) (pj_d p_X3_placeOfFirstOrder 21 rfl) rfl ?_
      refine pj_ild5 (q := 39) (pj_d p_X3_placeOfFirstOrder 22 rfl) rfl ?_
      refine pj_cp (pj_rV (q := 42) (c_X3_nextOnShelf G0 G1 G3 hf hT2 hW hs hS ho (fun t ht hb => hE _ (by have : 1 ≤ 2 ^ t := Nat.pow_pos (by omega); omega) (gd_S_lt (τ 1) (by omega) S hS t ht hb) t ht)) (pj_d p_X3_placeOfFirstOrder 23 rfl) rfl kX3_106 o_X3_nextOnShelf (by first | assumption | exact pj_up_s | exact (pj_up_n (by omega)).trans (by assumption)) (by rfl) (by rfl) (by rfl) (by rfl) (Nat.le_of_ble_eq_true rfl) (by decide)) (by decide) (by decide) ?_
      refine pj_ist5 (q := 44) (pj_d p_X3_placeOfFirstOrder 24 rfl) rfl (by first | rfl | assumption) ?_
      refine pj_ild5 (q := 46) (pj_d p_X3_placeOfFirstOrder 25 rfl) rfl ?_
      refine pj_ldc (q := 48) (pj_d p_X3_placeOfFirstOrder 26 rfl) rfl kX3_55 ?_
      cases e : gd_nx τ st S o with
      | none =>
        rw [gd_sk_n (i := i + 1) (by omega) (gd_shf_n hq e)]
        refine pj_icmp_ne (t := 54) (q := 51) (pj_d p_X3_placeOfFirstOrder 27 rfl) rfl (by decide) (fun c3 => ?_) (fun c3 => ?_)
        · exact absurd rfl c3
        refine pj_ldc (q := 53) (pj_d p_X3_placeOfFirstOrder 28 rfl) rfl kX3_55 ?_
        refine pj_iret rfl (pj_d p_X3_placeOfFirstOrder 29 rfl) (by decide) (by decide) ?_
        exact ⟨rfl, rfl, f, fe, rfl⟩
      | some t =>
        obtain ⟨t1, t2, t3, t4⟩ := gd_nx_some e
        have eb := gd_cf_t t2
        have hS2 := gd_S_lt (τ 1) (by omega) S hS t t1 eb
        show pj_V E B l Y_X3_placeOfFirstOrder 6 0 0 48 [some (.ref f0), some (.ref k), some (.int (nI d)), some (.int (nI j)), some (.int (nI S)), some (.int (nI t)), some (.int (nI i))] [.int (-1000000), .int (nI t)] (pj_up (pj_up h (f0 + 1) (.inl (0, 7, .inl f))) (f0 + 3) (.inl (0, 896, .inl fe))) n1 0 0 (gd_s2 (gd_sk τ st j) h f0 n1)
        refine pj_icmp_ne (t := 54) (q := 51) (pj_d p_X3_placeOfFirstOrder 27 rfl) rfl (by decide) (fun c3 => ?_) (fun c3 => ?_)
        rotate_left
        · exact absurd c3 (gd_neg (by omega))
        refine pj_ild4 (q := 56) (pj_d p_X3_placeOfFirstOrder 30 rfl) rfl ?_
        refine pj_iconst (q := 57) (v := nI 1) (pj_d p_X3_placeOfFirstOrder 31 rfl) rfl (by decide) ?_
        refine pj_ild5 (q := 59) (pj_d p_X3_placeOfFirstOrder 32 rfl) rfl ?_
        refine pj_ishl (q := 60) (pj_d p_X3_placeOfFirstOrder 33 rfl) rfl ?_
        rw [gd_shl1 t (by omega)]
        refine pj_ior (q := 61) (pj_d p_X3_placeOfFirstOrder 34 rfl) rfl ?_
        rw [gd_or3 S S128 t (by omega) eb]
        refine pj_ist4 (q := 63) (pj_d p_X3_placeOfFirstOrder 35 rfl) rfl (by first | rfl | assumption) ?_
        refine pj_iinc6 (q := 66) (v := 1) (pj_d p_X3_placeOfFirstOrder 36 rfl) rfl (by first | rfl | assumption) (by decide) ?_
        refine pj_goto (t := 27) (pj_d p_X3_placeOfFirstOrder 37 rfl) (by decide) ?_
        rw [nI_1]
        exact ih (i + 1) (S + 2 ^ t) (some t) (gd_shf_s hq e) hS2 (fun z hz => by cases hz; exact t1) (by omega) (by omega)
  exact loop (j + 2) 0 0 none rfl (Nat.pow_pos (by omega)) (fun a ha => by cases ha) (by omega) (by omega)
theorem c_X11_shelf (hX : gd_XR h b po lf stt τ ac) (x y : Int32) : pj_Ct E B l Y_X11_shelf 7 0 0 [.ref b, .int x, .int y] h n (gd_s2 (sp_shelf τ x y) h (b + 15) n) := by
  obtain ⟨hx, hF, hW, hp⟩ := hX
  have h7 := hW.1
  have F0 := hF.1
  refine pj_in rfl (ls := [some (.ref b), some (.int (x)), some (.int (y))]) rfl (Nat.le_of_ble_eq_true rfl) ?_
  cases po with
  | none =>
    obtain ⟨p0, p1⟩ := hp
    have hx : h b = some (.inr (10, [.ref (b + 1), .ref (b + 13), .ref (b + 15), .ref (b + 19), .ref (b + 21), .null, .int lf, .int stt])) := hx
    refine pj_ald0 (q := 1) (pj_d p_X11_shelf 0 rfl) rfl ?_
    refine pj_gf (q := 4) (k := 5) (pj_d p_X11_shelf 1 rfl) rfl kX11_102 (by first | assumption | exact pj_up_s | exact (pj_up_n (by omega)).trans (by assumption)) (by rfl) (by rfl) ?_
    refine pj_ifnonnullN (q := 7) (pj_d p_X11_shelf 2 rfl) rfl ?_
    refine pj_ldc (q := 9) (pj_d p_X11_shelf 3 rfl) rfl kX11_112 ?_
    refine pj_iret rfl (pj_d p_X11_shelf 4 rfl) (by decide) (by decide) ?_
    exact gd_s2_same hF (by simp [sp_shelf, p0])
  | some k =>
    obtain ⟨hk, p0, hT⟩ := hp
    have hx : h b = some (.inr (10, [.ref (b + 1), .ref (b + 13), .ref (b + 15), .ref (b + 19), .ref (b + 21), .ref k, .int lf, .int stt])) := hx
    have t0 := hT.1
    refine pj_ald0 (q := 1) (pj_d p_X11_shelf 0 rfl) rfl ?_
    refine pj_gf (q := 4) (k := 5) (pj_d p_X11_shelf 1 rfl) rfl kX11_102 (by first | assumption | exact pj_up_s | exact (pj_up_n (by omega)).trans (by assumption)) (by rfl) (by rfl) ?_
    refine pj_ifnonnull (t := 10) (pj_d p_X11_shelf 2 rfl) (by decide) ?_
    have bad : ¬ (gd_rng x 0 100 = true ∧ gd_rng y (-1) 6 = true) → pj_V E B l Y_X11_shelf 7 0 0 28 [some (.ref b), some (.int (x)), some (.int (y))] [] h n 0 0 (gd_s2 (sp_shelf τ x y) h (b + 15) n) := by
      intro hn
      refine pj_ldc (q := 30) (pj_d p_X11_shelf 14 rfl) rfl kX11_47 ?_
      refine pj_iret rfl (pj_d p_X11_shelf 15 rfl) (by decide) (by decide) ?_
      exact gd_s2_same hF (by rw [sp_shelf, if_pos p0, if_neg hn])
    refine pj_ild1 (q := 11) (pj_d p_X11_shelf 5 rfl) rfl ?_
    refine pj_cp (pj_rS (q := 14) (c_X11_isAhead x) (pj_d p_X11_shelf 6 rfl) rfl kX11_174 o_X11_isAhead (by rfl) (by rfl) (Nat.le_of_ble_eq_true rfl) (by decide)) (by decide) (by decide) ?_
    refine pj_if_eq (t := 28) (q := 17) (pj_d p_X11_shelf 7 rfl) rfl (by decide) (fun c1 => ?_) (fun c1 => ?_)
    · exact bad (fun q => by rw [(gd_b_z _).mp c1] at q; exact absurd q.1 (by decide))
    have e1 := (gd_b_n _).mp c1
    obtain ⟨d, hd, rfl, hdc⟩ := gd_rng_of (hi := 100) e1
    refine pj_ild2 (q := 18) (pj_d p_X11_shelf 8 rfl) rfl ?_
    refine pj_iconst (q := 19) (v := (-1)) (pj_d p_X11_shelf 9 rfl) rfl (by decide) ?_
    refine pj_icmp_lt (t := 28) (q := 22) (pj_d p_X11_shelf 10 rfl) rfl (by decide) (fun c3 => ?_) (fun c3 => ?_)
    · refine bad (fun q => ?_)
      have q2 := q.2
      rw [gd_rng, decide_eq_true_eq] at q2
      rw [Int32.lt_iff_toInt_lt, show ((-1 : Int32)).toInt = -1 by decide] at c3
      omega
    rw [Int32.lt_iff_toInt_lt, show ((-1 : Int32)).toInt = -1 by decide] at c3
    refine pj_ild2 (q := 23) (pj_d p_X11_shelf 11 rfl) rfl ?_
    refine pj_bipush (q := 25) (v := nI 7) (pj_d p_X11_shelf 12 rfl) rfl (by decide) ?_
    refine pj_icmp_lt (t := 31) (q := 28) (pj_d p_X11_shelf 13 rfl) rfl (by decide) (fun c4 => ?_) (fun c4 => ?_)
    rotate_left
    · refine bad (fun q => ?_)
      have q2 := q.2
      rw [gd_rng, decide_eq_true_eq] at q2
      rw [Int32.lt_iff_toInt_lt, nI_toInt (by omega)] at c4
      omega
    rw [Int32.lt_iff_toInt_lt, nI_toInt (by omega)] at c4
    have e2 : gd_rng y (-1) 6 = true := by
      rw [gd_rng, decide_eq_true_eq]
      omega
    refine pj_ild2 (q := 32) (pj_d p_X11_shelf 16 rfl) rfl ?_
    refine pj_if_ge (t := 50) (q := 35) (pj_d p_X11_shelf 17 rfl) rfl (by decide) (fun c5 => ?_) (fun c5 => ?_)
    · rw [Int32.le_iff_toInt_le, show (0 : Int32).toInt = 0 by decide] at c5
      obtain ⟨j, hj, rfl⟩ := nI_of (x := y) (by rw [Int32.lt_iff_toInt_lt, show (0 : Int32).toInt = 0 by decide]; omega)
      have nj : (nI j).toInt = j := nI_toInt hj
      refine pj_ald0 (q := 51) (pj_d p_X11_shelf 25 rfl) rfl ?_
      refine pj_gf (q := 54) (k := 2) (pj_d p_X11_shelf 26 rfl) rfl kX11_26 (by first | assumption | exact pj_up_s | exact (pj_up_n (by omega)).trans (by assumption)) (by rfl) (by rfl) ?_
      refine pj_ald0 (q := 55) (pj_d p_X11_shelf 27 rfl) rfl ?_
      refine pj_gf (q := 58) (k := 5) (pj_d p_X11_shelf 28 rfl) rfl kX11_102 (by first | assumption | exact pj_up_s | exact (pj_up_n (by omega)).trans (by assumption)) (by rfl) (by rfl) ?_
      refine pj_ild1 (q := 59) (pj_d p_X11_shelf 29 rfl) rfl ?_
      refine pj_ild2 (q := 60) (pj_d p_X11_shelf 30 rfl) rfl ?_
      refine pj_cv (pj_rV (q := 63) (c_X3_placeOfFirstOrder hF hT hW (by omega) (d := d) (by omega) (j := j) (by omega)) (pj_d p_X11_shelf 31 rfl) rfl kX11_224 o_X3_placeOfFirstOrder (by first | assumption | exact pj_up_s | exact (pj_up_n (by omega)).trans (by assumption)) (by rfl) (by rfl) (by rfl) (by rfl) (Nat.le_of_ble_eq_true rfl) (by decide)) (by decide) (by decide) ?_
      rintro r1 h1 n1 ⟨rfl, rfl, f, fe, rfl⟩
      refine pj_iret rfl (pj_d p_X11_shelf 32 rfl) (by decide) (by decide) ?_
      refine ⟨?_, rfl, f, fe, rfl⟩
      rw [sp_shelf, if_pos p0, if_pos ⟨e1, e2⟩, if_neg (by omega), hdc, nI_clamp (n := j) (by omega)]
    · rw [Int32.le_iff_toInt_le, show (0 : Int32).toInt = 0 by decide] at c5
      refine pj_ald0 (q := 36) (pj_d p_X11_shelf 18 rfl) rfl ?_
      refine pj_gf (q := 39) (k := 2) (pj_d p_X11_shelf 19 rfl) rfl kX11_26 (by first | assumption | exact pj_up_s | exact (pj_up_n (by omega)).trans (by assumption)) (by rfl) (by rfl) ?_
      refine pj_ald0 (q := 40) (pj_d p_X11_shelf 20 rfl) rfl ?_
      refine pj_gf (q := 43) (k := 5) (pj_d p_X11_shelf 21 rfl) rfl kX11_102 (by first | assumption | exact pj_up_s | exact (pj_up_n (by omega)).trans (by assumption)) (by rfl) (by rfl) ?_
      refine pj_ild1 (q := 44) (pj_d p_X11_shelf 22 rfl) rfl ?_
      refine pj_cv (pj_rV (q := 47) (c_X3_countOrders hF hT hW (by omega) (d := d) (by omega)) (pj_d p_X11_shelf 23 rfl) rfl kX11_221 o_X3_countOrders (by first | assumption | exact pj_up_s | exact (pj_up_n (by omega)).trans (by assumption)) (by rfl) (by rfl) (by rfl) (by rfl) (Nat.le_of_ble_eq_true rfl) (by decide)) (by decide) (by decide) ?_
      rintro r1 h1 n1 ⟨rfl, rfl, f, fe, rfl⟩
      refine pj_goto (t := 63) (pj_d p_X11_shelf 24 rfl) (by decide) ?_
      refine pj_iret rfl (pj_d p_X11_shelf 32 rfl) (by decide) (by decide) ?_
      refine ⟨?_, rfl, f, fe, rfl⟩
      rw [show sp_shelf τ (nI d) y = nI (if τ 1 = 0 then 1 else gd_so τ (gd_miss τ d)) by rw [sp_shelf, if_pos p0, if_pos ⟨e1, e2⟩, if_pos (by omega), hdc]]
end
