/-! ===== bets ===== -/
def gd_it (c : Nat) : Nat → Nat
  | 0 => 4 ^ c
  | j + 1 => gd_it c j * (c - j) / (4 * (j + 1))
def gd_aM (c k : Nat) : Nat := gd_sm (fun j => if k ≤ j then gd_it c j else 0) (c + 1)
def gd_wy (c m : Nat) : Nat → Nat
  | 0 => 1
  | i + 1 => gd_wy c m i * (c - m + (i + 1)) / (i + 1)
def gd_ca (c m : Nat) : Nat := gd_wy c m m * 4 ^ (c - m)
def gd_aX (c k : Nat) : Nat := gd_sm (fun j => if k ≤ j then gd_ca c j else 0) (c + 1)
def gd_bX (c : Nat) : Nat := gd_sm (gd_ca c) (c + 1)
def gd_eu : Nat → Nat → Nat → Nat
  | 0, a, _ => a
  | f + 1, a, b => if b = 0 then a else gd_eu f b (a % b)
theorem gd_eu_gcd : ∀ f a b, b < f → gd_eu f a b = Nat.gcd b a
  | 0, a, b, h => absurd h (Nat.not_lt_zero b)
  | f + 1, a, b, h => by
    rw [gd_eu]
    split
    · rename_i hb; subst hb; rw [Nat.gcd_zero_left]
    · rename_i hb
      have := Nat.mod_lt a (Nat.pos_of_ne_zero hb)
      rw [gd_eu_gcd f b (a % b) (by omega), ← Nat.gcd_rec]
theorem gd_bets : ∀ c, c < 13 → ∀ k, k < c + 1 → (gd_aX c k = gd_aM c k ∧ gd_bX c = 5 ^ c) ∧ gd_eu 100 (gd_aM c k) (5 ^ c) = Nat.gcd (5 ^ c) (gd_aM c k) := by decide +kernel
theorem gd_it_lt : ∀ c, c < 13 → ∀ j, j < 14 → gd_it c j < 1099511627776 := by decide +kernel
theorem gd_wy_lt : ∀ c, c < 13 → ∀ m, m < c + 1 → ∀ i, i < m + 1 → gd_wy c m i < 1000000 := by decide +kernel
theorem gd_aM_lt : ∀ c, c < 13 → ∀ k, k < c + 1 → gd_aM c k < 1099511627776 := by decide +kernel
theorem gd_5 : ∀ c, c < 13 → 5 ^ c < 1099511627776 ∧ 0 < 5 ^ c ∧ 4 ^ c < 1099511627776 := by decide +kernel
def sp_bet (c k w : Int32) : Int64 := if gd_rng c 0 12 && gd_rng k 0 c.toInt && gd_rng w 0 1 then (if w.toInt = 0 then lN (gd_aM c.toNatClampNeg k.toNatClampNeg / Nat.gcd (5 ^ c.toNatClampNeg) (gd_aM c.toNatClampNeg k.toNatClampNeg)) else lN (5 ^ c.toNatClampNeg / Nat.gcd (5 ^ c.toNatClampNeg) (gd_aM c.toNatClampNeg k.toNatClampNeg))) else -1000001
theorem gd_sub {a b : Nat} (h : b ≤ a) : nI a - nI b = nI (a - b) := pk_sub h
theorem gd_lne {a : Nat} (h0 : 0 < a) (h : a < 2 ^ 63) : ¬ lN a = 0 := by
  intro e
  have : lN a = lN 0 := e
  have := (pk_lEQ h (by omega)).mp this
  omega
theorem gd_lz {a : Nat} (h : a < 2 ^ 63) (e : lN a = lN 0) : a = 0 := (pk_lEQ h (by omega)).mp e
section
variable {E : pj_E} {B : Nat} {l : Launch} {h : pj_H} {n g b : Nat} {τ : Nat → Nat} {v : Nat → Int32}
theorem c_X3_ways {c m : Nat} (hc : c < 13) (hm : m < c + 1) : pj_Ct E B l Y_X3_ways 1 0 0 [.int (nI c), .int (nI m)] h n (pj_is (some (.long (lN (gd_wy c m m)))) h n) := by
  refine pj_in rfl (ls := [some (.int (nI c)), some (.int (nI m)), none, none, none]) rfl (Nat.le_of_ble_eq_true rfl) ?_
  refine pj_lconst (q := 1) (v := lN 1) (pj_d p_X3_ways 0 rfl) rfl (by decide) ?_
  refine pj_lst2 (q := 2) (pj_d p_X3_ways 1 rfl) rfl (by first | rfl | assumption) ?_
  refine pj_iconst (q := 3) (v := nI 1) (pj_d p_X3_ways 2 rfl) rfl (by decide) ?_
  refine pj_ist4 (q := 5) (pj_d p_X3_ways 3 rfl) rfl (by first | rfl | assumption) ?_
  have loop : ∀ f i, m - i < f → i ≤ m → pj_V E B l Y_X3_ways 1 0 0 5 [some (.int (nI c)), some (.int (nI m)), some (.long (lN (gd_wy c m i))), none, some (.int (nI (i + 1)))] [] h n 0 0 (pj_is (some (.long (lN (gd_wy c m m)))) h n) := by
    intro f
    induction f with
    | zero => intro i hi; omega
    | succ f ih =>
      intro i hi hle
      refine pj_ild4 (q := 7) (pj_d p_X3_ways 4 rfl) rfl ?_
      refine pj_ild1 (q := 8) (pj_d p_X3_ways 5 rfl) rfl ?_
      refine pj_icmp_gt (t := 31) (q := 11) (pj_d p_X3_ways 6 rfl) rfl (by decide) (fun c1 => ?_) (fun c1 => ?_)
      · have he : i = m := by have := (nI_ltI (by omega) (by omega)).mp c1; omega
        subst he
        refine pj_lld2 (q := 32) (pj_d p_X3_ways 21 rfl) rfl ?_
        refine pj_lret rfl (pj_d p_X3_ways 22 rfl) (by decide) (by decide) ?_
        exact ⟨rfl, rfl, rfl⟩
      have hlt : i < m := by
        rcases Nat.lt_or_ge i m with q | q
        · exact q
        · exact absurd (nI_lt (show m < i + 1 by omega) (by omega)) c1
      have b1 := gd_wy_lt c hc m hm i (by omega)
      have hx : gd_wy c m i * (c - m + (i + 1)) ≤ 1000000 * 100 := Nat.mul_le_mul (by omega) (by omega)
      refine pj_lld2 (q := 12) (pj_d p_X3_ways 7 rfl) rfl ?_
      refine pj_ild0 (q := 13) (pj_d p_X3_ways 8 rfl) rfl ?_
      refine pj_ild1 (q := 14) (pj_d p_X3_ways 9 rfl) rfl ?_
      refine pj_isub (q := 15) (pj_d p_X3_ways 10 rfl) rfl ?_
      rw [gd_sub (by omega)]
      refine pj_ild4 (q := 17) (pj_d p_X3_ways 11 rfl) rfl ?_
      refine pj_iadd (q := 18) (pj_d p_X3_ways 12 rfl) rfl ?_
      rw [nI_add]
      refine pj_i2l (q := 19) (pj_d p_X3_ways 13 rfl) rfl ?_
      rw [nI_l (by omega)]
      refine pj_lmul (q := 20) (pj_d p_X3_ways 14 rfl) rfl ?_
      rw [lN_mul]
      refine pj_ild4 (q := 22) (pj_d p_X3_ways 15 rfl) rfl ?_
      refine pj_i2l (q := 23) (pj_d p_X3_ways 16 rfl) rfl ?_
      rw [nI_l (by omega)]
      refine pj_ldiv (q := 24) (pj_d p_X3_ways 17 rfl) rfl (gd_lne (by omega) (by omega)) ?_
      rw [pk_lDiv (by omega) (by omega) (by omega)]
      refine pj_lst2 (q := 25) (pj_d p_X3_ways 18 rfl) rfl (by first | rfl | assumption) ?_
      refine pj_iinc4 (q := 28) (v := 1) (pj_d p_X3_ways 19 rfl) rfl (by first | rfl | assumption) (by decide) ?_
      refine pj_goto (t := 5) (pj_d p_X3_ways 20 rfl) (by decide) ?_
      rw [nI_1]
      exact ih (i + 1) (by omega) (by omega)
  exact loop (m + 1) 0 (by omega) (by omega)
theorem c_X3_power {e : Nat} (he : e < 13) : pj_Ct E B l Y_X3_power 1 0 0 [.long 4, .int (nI e)] h n (pj_is (some (.long (lN (4 ^ e)))) h n) := by
  refine pj_in rfl (ls := [some (.long 4), none, some (.int (nI e)), none, none, none]) rfl (Nat.le_of_ble_eq_true rfl) ?_
  refine pj_lconst (q := 1) (v := lN 1) (pj_d p_X3_power 0 rfl) rfl (by decide) ?_
  refine pj_lst3 (q := 2) (pj_d p_X3_power 1 rfl) rfl (by first | rfl | assumption) ?_
  refine pj_iconst (q := 3) (v := nI 0) (pj_d p_X3_power 2 rfl) rfl (by decide) ?_
  refine pj_ist5 (q := 5) (pj_d p_X3_power 3 rfl) rfl (by first | rfl | assumption) ?_
  have loop : ∀ f i, e - i < f → i ≤ e → pj_V E B l Y_X3_power 1 0 0 5 [some (.long 4), none, some (.int (nI e)), some (.long (lN (4 ^ i))), none, some (.int (nI i))] [] h n 0 0 (pj_is (some (.long (lN (4 ^ e)))) h n) := by
    intro f
    induction f with
    | zero => intro i hi; omega
    | succ f ih =>
      intro i hi hle
      refine pj_ild5 (q := 7) (pj_d p_X3_power 4 rfl) rfl ?_
      refine pj_ild2 (q := 8) (pj_d p_X3_power 5 rfl) rfl ?_
      refine pj_icmp_ge (t := 21) (q := 11) (pj_d p_X3_power 6 rfl) rfl (by decide) (fun c1 => ?_) (fun c1 => ?_)
      · have he : i = e := by have := gd_ge c1 (by omega) (by omega); omega
        subst he
        refine pj_lld3 (q := 22) (pj_d p_X3_power 13 rfl) rfl ?_
        refine pj_lret rfl (pj_d p_X3_power 14 rfl) (by decide) (by decide) ?_
        exact ⟨rfl, rfl, rfl⟩
      have hlt : i < e := gd_lt c1 (by omega)
      refine pj_lld3 (q := 12) (pj_d p_X3_power 7 rfl) rfl ?_
      refine pj_lld0 (q := 13) (pj_d p_X3_power 8 rfl) rfl ?_
      refine pj_lmul (q := 14) (pj_d p_X3_power 9 rfl) rfl ?_
      rw [show (4 : Int64) = lN 4 from rfl, lN_mul, ← Nat.pow_succ]
      rw [show lN 4 = (4 : Int64) from rfl]
      refine pj_lst3 (q := 15) (pj_d p_X3_power 10 rfl) rfl (by first | rfl | assumption) ?_
      refine pj_iinc5 (q := 18) (v := 1) (pj_d p_X3_power 11 rfl) rfl (by first | rfl | assumption) (by decide) ?_
      refine pj_goto (t := 5) (pj_d p_X3_power 12 rfl) (by decide) ?_
      rw [nI_1]
      exact ih (i + 1) (by omega) (by omega)
  exact loop (e + 1) 0 (by omega) (by omega)
theorem c_X3_greatestShared {x y : Nat} (hx : x < 1099511627776) (hy : y < 1099511627776) : pj_Ct E B l Y_X3_greatestShared 1 0 0 [.long (lN x), .long (lN y)] h n (pj_is (some (.long (lN (gd_eu 100 x y)))) h n) := by
  refine pj_in rfl (ls := [some (.long (lN x)), none, some (.long (lN y)), none, none, none, none, none, none, none, none]) rfl (Nat.le_of_ble_eq_true rfl) ?_
  refine pj_lld0 (q := 1) (pj_d p_X3_greatestShared 0 rfl) rfl ?_
  refine pj_lst4 (q := 3) (pj_d p_X3_greatestShared 1 rfl) rfl (by first | rfl | assumption) ?_
  refine pj_lld2 (q := 4) (pj_d p_X3_greatestShared 2 rfl) rfl ?_
  refine pj_lst6 (q := 6) (pj_d p_X3_greatestShared 3 rfl) rfl (by first | rfl | assumption) ?_
  refine pj_iconst (q := 7) (v := nI 0) (pj_d p_X3_greatestShared 4 rfl) rfl (by decide) ?_
  refine pj_ist8 (q := 9) (pj_d p_X3_greatestShared 5 rfl) rfl (by first | rfl | assumption) ?_
  have loop : ∀ f i p r o9, pj_c1 o9 = true ∨ True → gd_eu 100 x y = gd_eu (100 - i) p r → p < 1099511627776 → r < 1099511627776 → 100 - i < f → i ≤ 100 → pj_V E B l Y_X3_greatestShared 1 0 0 9 [some (.long (lN x)), none, some (.long (lN y)), none, some (.long (lN p)), none, some (.long (lN r)), none, some (.int (nI i)), o9, none] [] h n 0 0 (pj_is (some (.long (lN (gd_eu 100 x y)))) h n) := by
    intro f
    induction f with
    | zero => intro i p r o9 _ _ _ _ hi; omega
    | succ f ih =>
      intro i p r o9 k9 he hp hr hi hle
      refine pj_ild8 (q := 11) (pj_d p_X3_greatestShared 6 rfl) rfl ?_
      refine pj_bipush (q := 13) (v := nI 100) (pj_d p_X3_greatestShared 7 rfl) rfl (by decide) ?_
      refine pj_icmp_ge (t := 44) (q := 16) (pj_d p_X3_greatestShared 8 rfl) rfl (by decide) (fun c1 => ?_) (fun c1 => ?_)
      · have he : i = 100 := by have := gd_ge c1 (by omega) (by omega); omega
        subst he
        refine pj_lld4 (q := 46) (pj_d p_X3_greatestShared 23 rfl) rfl ?_
        refine pj_lret rfl (pj_d p_X3_greatestShared 24 rfl) (by decide) (by decide) ?_
        exact ⟨by rw [he]; rfl, rfl, rfl⟩
      have hlt : i < 100 := gd_lt c1 (by omega)
      obtain ⟨z, hz⟩ : ∃ z, 100 - i = z + 1 := ⟨99 - i, by omega⟩
      rw [hz, show gd_eu (z + 1) p r = if r = 0 then p else gd_eu z r (p % r) from rfl] at he
      refine pj_lld6 (q := 18) (pj_d p_X3_greatestShared 9 rfl) rfl ?_
      refine pj_lconst (q := 19) (v := lN 0) (pj_d p_X3_greatestShared 10 rfl) rfl (by decide) ?_
      refine pj_lcmp (q := 20) (pj_d p_X3_greatestShared 11 rfl) rfl ?_
      refine pj_if_eq (t := 44) (q := 23) (pj_d p_X3_greatestShared 12 rfl) rfl (by decide) (fun c2 => ?_) (fun c2 => ?_)
      · have h0 := gd_lz (by omega) ((lg_cmp_eq _ _).mp c2)
        refine pj_lld4 (q := 46) (pj_d p_X3_greatestShared 23 rfl) rfl ?_
        refine pj_lret rfl (pj_d p_X3_greatestShared 24 rfl) (by decide) (by decide) ?_
        exact ⟨by rw [he, if_pos h0], rfl, rfl⟩
      have h0 : ¬ r = 0 := fun q => c2 ((lg_cmp_eq _ _).mpr (by rw [q]))
      have hm := Nat.mod_lt p (Nat.pos_of_ne_zero h0)
      refine pj_lld4 (q := 25) (pj_d p_X3_greatestShared 13 rfl) rfl ?_
      refine pj_lld6 (q := 27) (pj_d p_X3_greatestShared 14 rfl) rfl ?_
      refine pj_lrem (q := 28) (pj_d p_X3_greatestShared 15 rfl) rfl (gd_lne (by omega) (by omega)) ?_
      rw [pk_lRem (by omega) (by omega) (by omega)]
      refine pj_lst9 (q := 30) (pj_d p_X3_greatestShared 16 rfl) rfl (by first | rfl | assumption) ?_
      refine pj_lld6 (q := 32) (pj_d p_X3_greatestShared 17 rfl) rfl ?_
      refine pj_lst4 (q := 34) (pj_d p_X3_greatestShared 18 rfl) rfl (by first | rfl | assumption) ?_
      refine pj_lld9 (q := 36) (pj_d p_X3_greatestShared 19 rfl) rfl ?_
      refine pj_lst6 (q := 38) (pj_d p_X3_greatestShared 20 rfl) rfl (by first | rfl | assumption) ?_
      refine pj_iinc8 (q := 41) (v := 1) (pj_d p_X3_greatestShared 21 rfl) rfl (by first | rfl | assumption) (by decide) ?_
      refine pj_goto (t := 9) (pj_d p_X3_greatestShared 22 rfl) (by decide) ?_
      rw [nI_1]
      exact ih (i + 1) r (p % r) _ (Or.inr trivial) (by rw [he, if_neg h0, show 100 - (i + 1) = z by omega]) hr (by omega) (by omega) (by omega)
  exact loop 101 0 x y none (Or.inr trivial) rfl hx hy (by omega) (by omega)
theorem c_X3_likelihood {c k j : Nat} (hc : c < 13) (hk : k < c + 1) (hj : j ≤ 1) : pj_Ct E B l Y_X3_likelihood 2 0 0 [.int (nI c), .int (nI k), .int (nI j)] h n (pj_is (some (.long (if j = 0 then lN (gd_aM c k / Nat.gcd (5 ^ c) (gd_aM c k)) else lN (5 ^ c / Nat.gcd (5 ^ c) (gd_aM c k))))) h n) := by
  obtain ⟨⟨z1, z2⟩, z3⟩ := gd_bets c hc k hk
  have ba := gd_aM_lt c hc k hk
  obtain ⟨b5, b50, -⟩ := gd_5 c hc
  refine pj_in rfl (ls := [some (.int (nI c)), some (.int (nI k)), some (.int (nI j)), none, none, none, none, none, none, none]) rfl (Nat.le_of_ble_eq_true rfl) ?_
  refine pj_lconst (q := 1) (v := lN 0) (pj_d p_X3_likelihood 0 rfl) rfl (by decide) ?_
  refine pj_lst3 (q := 2) (pj_d p_X3_likelihood 1 rfl) rfl (by first | rfl | assumption) ?_
  refine pj_lconst (q := 3) (v := lN 0) (pj_d p_X3_likelihood 2 rfl) rfl (by decide) ?_
  refine pj_lst5 (q := 5) (pj_d p_X3_likelihood 3 rfl) rfl (by first | rfl | assumption) ?_
  refine pj_iconst (q := 6) (v := nI 0) (pj_d p_X3_likelihood 4 rfl) rfl (by decide) ?_
  refine pj_ist7 (q := 8) (pj_d p_X3_likelihood 5 rfl) rfl (by first | rfl | assumption) ?_
  generalize hf : (fun j => if k ≤ j then gd_ca c j else 0) = f
  have hA : gd_aX c k = gd_sm f (c + 1) := by rw [← hf]; rfl
  have loop : ∀ m i o8, pj_c1 o8 = true ∨ True → c + 1 - i < m → i ≤ c + 1 → pj_V E B l Y_X3_likelihood 2 0 0 8 [some (.int (nI c)), some (.int (nI k)), some (.int (nI j)), some (.long (lN (gd_sm f i))), none, some (.long (lN (gd_sm (gd_ca c) i))), none, some (.int (nI i)), o8, none] [] h n 0 0 (pj_is (some (.long (if j = 0 then lN (gd_aM c k / Nat.gcd (5 ^ c) (gd_aM c k)) else lN (5 ^ c / Nat.gcd (5 ^ c) (gd_aM c k))))) h n) := by
    intro m
    induction m with
    | zero => intro i o8 _ hi; omega
    | succ m ih =>
      intro i o8 k8 hi hle
      refine pj_ild7 (q := 10) (pj_d p_X3_likelihood 6 rfl) rfl ?_
      refine pj_ild0 (q := 11) (pj_d p_X3_likelihood 7 rfl) rfl ?_
      refine pj_icmp_gt (t := 57) (q := 14) (pj_d p_X3_likelihood 8 rfl) rfl (by decide) (fun c1 => ?_) (fun c1 => ?_)
      · have he : i = c + 1 := by have := (nI_ltI (by omega) (by omega)).mp c1; omega
        subst he
        rw [← hA, z1, show gd_sm (gd_ca c) (c + 1) = gd_bX c from rfl, z2]
        have hg : 0 < Nat.gcd (5 ^ c) (gd_aM c k) := Nat.gcd_pos_of_pos_left _ b50
        have hgl : Nat.gcd (5 ^ c) (gd_aM c k) ≤ 5 ^ c := Nat.gcd_le_left _ b50
        refine pj_lld3 (q := 58) (pj_d p_X3_likelihood 32 rfl) rfl ?_
        refine pj_lld5 (q := 60) (pj_d p_X3_likelihood 33 rfl) rfl ?_
        refine pj_cp (pj_rS (q := 63) (c_X3_greatestShared ba b5) (pj_d p_X3_likelihood 34 rfl) rfl kX3_144 o_X3_greatestShared (by rfl) (by rfl) (Nat.le_of_ble_eq_true rfl) (by decide)) (by decide) (by decide) ?_
        rw [z3]
        refine pj_lst7 (q := 65) (pj_d p_X3_likelihood 35 rfl) rfl (by first | rfl | assumption) ?_
        refine pj_lld7 (q := 67) (pj_d p_X3_likelihood 36 rfl) rfl ?_
        refine pj_lconst (q := 68) (v := lN 0) (pj_d p_X3_likelihood 37 rfl) rfl (by decide) ?_
        refine pj_lcmp (q := 69) (pj_d p_X3_likelihood 38 rfl) rfl ?_
        refine pj_if_ne (t := 74) (q := 72) (pj_d p_X3_likelihood 39 rfl) rfl (by decide) (fun c2 => ?_) (fun c2 => ?_)
        · refine pj_ild2 (q := 75) (pj_d p_X3_likelihood 42 rfl) rfl ?_
          refine pj_if_ne (t := 82) (q := 78) (pj_d p_X3_likelihood 43 rfl) rfl (by decide) (fun c3 => ?_) (fun c3 => ?_)
          · have hj0 : ¬ j = 0 := fun q => c3 (by rw [q]; rfl)
            refine pj_lld5 (q := 84) (pj_d p_X3_likelihood 46 rfl) rfl ?_
            refine pj_lld7 (q := 86) (pj_d p_X3_likelihood 47 rfl) rfl ?_
            refine pj_ldiv (q := 87) (pj_d p_X3_likelihood 48 rfl) rfl (gd_lne (by omega) (by omega)) ?_
            rw [pk_lDiv (by omega) (by omega) (by omega)]
            refine pj_lret rfl (pj_d p_X3_likelihood 49 rfl) (by decide) (by decide) ?_
            exact ⟨by rw [if_neg hj0], rfl, rfl⟩
          · have hj0 : j = 0 := (nI_eq (by omega) (by omega)).mp (c3.trans nI_0.symm)
            refine pj_lld3 (q := 79) (pj_d p_X3_likelihood 44 rfl) rfl ?_
            refine pj_goto (t := 84) (pj_d p_X3_likelihood 45 rfl) (by decide) ?_
            refine pj_lld7 (q := 86) (pj_d p_X3_likelihood 47 rfl) rfl ?_
            refine pj_ldiv (q := 87) (pj_d p_X3_likelihood 48 rfl) rfl (gd_lne (by omega) (by omega)) ?_
            rw [pk_lDiv (by omega) (by omega) (by omega)]
            refine pj_lret rfl (pj_d p_X3_likelihood 49 rfl) (by decide) (by decide) ?_
            exact ⟨by rw [if_pos hj0], rfl, rfl⟩
        · have := gd_lz (by omega) ((lg_cmp_eq _ _).mp c2)
          omega
      have hlt : i < c + 1 := by
        rcases Nat.lt_or_ge i (c + 1) with q | q
        · exact q
        · exact absurd (nI_lt (show c < i by omega) (by omega)) c1
      refine pj_ild0 (q := 15) (pj_d p_X3_likelihood 9 rfl) rfl ?_
      refine pj_ild7 (q := 17) (pj_d p_X3_likelihood 10 rfl) rfl ?_
      refine pj_cp (pj_rS (q := 20) (c_X3_ways hc hlt) (pj_d p_X3_likelihood 11 rfl) rfl kX3_134 o_X3_ways (by rfl) (by rfl) (Nat.le_of_ble_eq_true rfl) (by decide)) (by decide) (by decide) ?_
      refine pj_ldc2 (q := 23) (pj_d p_X3_likelihood 12 rfl) rfl kX3_138 ?_
      refine pj_ild0 (q := 24) (pj_d p_X3_likelihood 13 rfl) rfl ?_
      refine pj_ild7 (q := 26) (pj_d p_X3_likelihood 14 rfl) rfl ?_
      refine pj_isub (q := 27) (pj_d p_X3_likelihood 15 rfl) rfl ?_
      rw [gd_sub (by omega)]
      refine pj_cp (pj_rS (q := 30) (c_X3_power (e := c - i) (by omega)) (pj_d p_X3_likelihood 16 rfl) rfl kX3_140 o_X3_power (by rfl) (by rfl) (Nat.le_of_ble_eq_true rfl) (by decide)) (by decide) (by decide) ?_
      refine pj_lmul (q := 31) (pj_d p_X3_likelihood 17 rfl) rfl ?_
      rw [lN_mul]
      rw [show gd_wy c i i * 4 ^ (c - i) = gd_ca c i from rfl]
      refine pj_lst8 (q := 33) (pj_d p_X3_likelihood 18 rfl) rfl (by first | rfl | assumption) ?_
      refine pj_lld5 (q := 35) (pj_d p_X3_likelihood 19 rfl) rfl ?_
      refine pj_lld8 (q := 37) (pj_d p_X3_likelihood 20 rfl) rfl ?_
      refine pj_ladd (q := 38) (pj_d p_X3_likelihood 21 rfl) rfl ?_
      rw [lN_add]
      refine pj_lst5 (q := 40) (pj_d p_X3_likelihood 22 rfl) rfl (by first | rfl | assumption) ?_
      refine pj_ild7 (q := 42) (pj_d p_X3_likelihood 23 rfl) rfl ?_
      refine pj_ild1 (q := 43) (pj_d p_X3_likelihood 24 rfl) rfl ?_
      have fin : ∀ z, z = gd_sm f (i + 1) → pj_V E B l Y_X3_likelihood 2 0 0 51 [some (.int (nI c)), some (.int (nI k)), some (.int (nI j)), some (.long (lN z)), none, some (.long (lN (gd_sm (gd_ca c) i + gd_ca c i))), none, some (.int (nI i)), some (.long (lN (gd_ca c i))), none] [] h n 0 0 (pj_is (some (.long (if j = 0 then lN (gd_aM c k / Nat.gcd (5 ^ c) (gd_aM c k)) else lN (5 ^ c / Nat.gcd (5 ^ c) (gd_aM c k))))) h n) := by
        intro z hz
        subst hz
        refine pj_iinc7 (q := 54) (v := 1) (pj_d p_X3_likelihood 30 rfl) rfl (by first | rfl | assumption) (by decide) ?_
        refine pj_goto (t := 8) (pj_d p_X3_likelihood 31 rfl) (by decide) ?_
        rw [nI_1]
        exact ih (i + 1) _ (Or.inr trivial) (by omega) (by omega)
      refine pj_icmp_lt (t := 51) (q := 46) (pj_d p_X3_likelihood 25 rfl) rfl (by decide) (fun c2 => ?_) (fun c2 => ?_)
      · have hki : ¬ k ≤ i := by have := (nI_ltI (by omega) (by omega)).mp c2; omega
        exact fin _ (by rw [gd_sm, ← hf]; simp only [if_neg hki]; rfl)
      · have hki : k ≤ i := by
          rcases Nat.lt_or_ge i k with q | q
          · exact absurd (nI_lt q (by omega)) c2
          · exact q
        refine pj_lld3 (q := 47) (pj_d p_X3_likelihood 26 rfl) rfl ?_
        refine pj_lld8 (q := 49) (pj_d p_X3_likelihood 27 rfl) rfl ?_
        refine pj_ladd (q := 50) (pj_d p_X3_likelihood 28 rfl) rfl ?_
        rw [lN_add]
        refine pj_lst3 (q := 51) (pj_d p_X3_likelihood 29 rfl) rfl (by first | rfl | assumption) ?_
        exact fin _ (by rw [gd_sm, ← hf]; simp only [if_pos hki])
  exact loop (c + 2) 0 none (Or.inr trivial) (by omega) (by omega)
theorem gd_rngc {c : Nat} {k : Int32} (hc : c ≤ 12) (e : gd_rng k 0 (nI c).toInt = true) : ∃ j, j ≤ c ∧ k = nI j ∧ k.toNatClampNeg = j := by
  rw [nI_toInt (by omega)] at e
  exact gd_rng_of (hi := c) e
theorem c_X11_bet (c k w : Int32) : pj_Ct E B l Y_X11_bet 3 0 0 [.ref b, .int c, .int k, .int w] h n (pj_is (some (.long (sp_bet c k w))) h n) := by
  refine pj_in rfl (ls := [some (.ref b), some (.int (c)), some (.int (k)), some (.int (w))]) rfl (Nat.le_of_ble_eq_true rfl) ?_
  have bad : (gd_rng c 0 12 && gd_rng k 0 c.toInt && gd_rng w 0 1) = false → pj_V E B l Y_X11_bet 3 0 0 26 [some (.ref b), some (.int (c)), some (.int (k)), some (.int (w))] [] h n 0 0 (pj_is (some (.long (sp_bet c k w))) h n) := by
    intro hx
    refine pj_ldc2 (q := 29) (pj_d p_X11_bet 13 rfl) rfl kX11_243 ?_
    refine pj_lret rfl (pj_d p_X11_bet 14 rfl) (by decide) (by decide) ?_
    exact ⟨by rw [sp_bet, hx]; rfl, rfl, rfl⟩
  refine pj_ild1 (q := 1) (pj_d p_X11_bet 0 rfl) rfl ?_
  refine pj_if_lt (t := 26) (q := 4) (pj_d p_X11_bet 1 rfl) rfl (by decide) (fun c1 => ?_) (fun c1 => ?_)
  · exact bad (by rw [gd_rng_lo (by decide) c1]; rfl)
  refine pj_ild1 (q := 5) (pj_d p_X11_bet 2 rfl) rfl ?_
  refine pj_bipush (q := 7) (v := nI 12) (pj_d p_X11_bet 3 rfl) rfl (by decide) ?_
  refine pj_icmp_gt (t := 26) (q := 10) (pj_d p_X11_bet 4 rfl) rfl (by decide) (fun c2 => ?_) (fun c2 => ?_)
  · exact bad (by rw [show gd_rng c 0 12 = false from gd_rng_gt (hi := 12) (by decide) c2]; rfl)
  have e1 : gd_rng c 0 12 = true := gd_rng_in (hi := 12) (by decide) c1 c2
  obtain ⟨c', hc, rfl, hcc⟩ := gd_rng_of (hi := 12) e1
  have hci : (nI c').toInt = (c' : Int) := nI_toInt (by omega)
  refine pj_ild2 (q := 11) (pj_d p_X11_bet 5 rfl) rfl ?_
  refine pj_if_lt (t := 26) (q := 14) (pj_d p_X11_bet 6 rfl) rfl (by decide) (fun c3 => ?_) (fun c3 => ?_)
  · exact bad (by rw [gd_rng_lo (by decide) c3]; simp)
  refine pj_ild2 (q := 15) (pj_d p_X11_bet 7 rfl) rfl ?_
  refine pj_ild1 (q := 16) (pj_d p_X11_bet 8 rfl) rfl ?_
  refine pj_icmp_gt (t := 26) (q := 19) (pj_d p_X11_bet 9 rfl) rfl (by decide) (fun c4 => ?_) (fun c4 => ?_)
  · exact bad (by rw [hci, show gd_rng k 0 (c' : Int) = false from gd_rng_gt (hi := c') (by omega) c4]; simp)
  have e2 : gd_rng k 0 (nI c').toInt = true := by rw [hci]; exact gd_rng_in (hi := c') (by omega) c3 c4
  refine pj_ild3 (q := 20) (pj_d p_X11_bet 10 rfl) rfl ?_
  refine pj_cp (pj_rS (q := 23) (c_X11_isChoice w) (pj_d p_X11_bet 11 rfl) rfl kX11_195 o_X11_isChoice (by rfl) (by rfl) (Nat.le_of_ble_eq_true rfl) (by decide)) (by decide) (by decide) ?_
  refine pj_if_ne (t := 30) (q := 26) (pj_d p_X11_bet 12 rfl) rfl (by decide) (fun c5 => ?_) (fun c5 => ?_)
  · have e3 := (gd_b_n _).mp c5
    obtain ⟨k', hk, rfl, hkc⟩ := gd_rngc hc e2
    obtain ⟨j, hj, rfl, hjc⟩ := gd_rng_of (hi := 1) e3
    have hji : (nI j).toInt = (j : Int) := nI_toInt (by omega)
    refine pj_ild1 (q := 31) (pj_d p_X11_bet 15 rfl) rfl ?_
    refine pj_ild2 (q := 32) (pj_d p_X11_bet 16 rfl) rfl ?_
    refine pj_ild3 (q := 33) (pj_d p_X11_bet 17 rfl) rfl ?_
    refine pj_cp (pj_rS (q := 36) (c_X3_likelihood (c := c') (k := k') (j := j) (by omega) (by omega) hj) (pj_d p_X11_bet 18 rfl) rfl kX11_245 o_X3_likelihood (by rfl) (by rfl) (Nat.le_of_ble_eq_true rfl) (by decide)) (by decide) (by decide) ?_
    refine pj_lret rfl (pj_d p_X11_bet 19 rfl) (by decide) (by decide) ?_
    refine ⟨?_, rfl, rfl⟩
    rw [sp_bet, e1, e2, e3, hcc, hkc, hji]
    simp
  · exact bad (by rw [(gd_b_z _).mp c5]; simp)
theorem c_X12_bet (hR : gd_MR h g v τ) (c k w : Int32) : pj_Ct E B l Y_X12_bet 2 0 0 [.ref g, .int c, .int k, .int w] h n (pj_is (some (.long (sp_bet c k w))) h n) := by
  obtain ⟨hM, hT, hv, hW, h1⟩ := hR
  refine pj_in rfl (ls := [some (.ref g), some (.int (c)), some (.int (k)), some (.int (w)), none, none, none, none, none, none, none, none, none, none, none, none]) rfl (Nat.le_of_ble_eq_true rfl) ?_
  refine gd_thr (pj_d p_X12_bet 0 rfl) (pj_d p_X12_bet 1 rfl) (pj_d p_X12_bet 2 rfl) rfl hM hv ?_
  have bad : (gd_rng c 0 12 && gd_rng k 0 c.toInt && gd_rng w 0 1) = false → pj_V E B l Y_X12_bet 2 0 0 38 [some (.ref g), some (.int (c)), some (.int (k)), some (.int (w)), none, none, none, none, none, none, none, none, none, none, none, none] [] h n 0 0 (pj_is (some (.long (sp_bet c k w))) h n) := by
    intro hx
    refine pj_ldc2 (q := 41) (pj_d p_X12_bet 22 rfl) rfl kX12_227 ?_
    refine pj_lret rfl (pj_d p_X12_bet 23 rfl) (by decide) (by decide) ?_
    exact ⟨by rw [sp_bet, hx]; rfl, rfl, rfl⟩
  refine pj_ild1 (q := 6) (pj_d p_X12_bet 3 rfl) rfl ?_
  refine pj_i2l (q := 7) (pj_d p_X12_bet 4 rfl) rfl ?_
  refine pj_lconst (q := 8) (v := lN 0) (pj_d p_X12_bet 5 rfl) rfl (by decide) ?_
  refine pj_ldc2 (q := 11) (pj_d p_X12_bet 6 rfl) rfl kX12_225 ?_
  refine pj_cp (pj_rS (q := 14) (c_X12_in c (lN 0) 12 0 12 (by decide) (by decide)) (pj_d p_X12_bet 7 rfl) rfl kX12_57 o_X12_in (by rfl) (by rfl) (Nat.le_of_ble_eq_true rfl) (by decide)) (by decide) (by decide) ?_
  refine pj_if_eq (t := 38) (q := 17) (pj_d p_X12_bet 8 rfl) rfl (by decide) (fun c1 => ?_) (fun c1 => ?_)
  · exact bad (by rw [(gd_b_z _).mp c1]; rfl)
  refine pj_ild2 (q := 18) (pj_d p_X12_bet 9 rfl) rfl ?_
  refine pj_i2l (q := 19) (pj_d p_X12_bet 10 rfl) rfl ?_
  refine pj_lconst (q := 20) (v := lN 0) (pj_d p_X12_bet 11 rfl) rfl (by decide) ?_
  refine pj_ild1 (q := 21) (pj_d p_X12_bet 12 rfl) rfl ?_
  refine pj_i2l (q := 22) (pj_d p_X12_bet 13 rfl) rfl ?_
  refine pj_cp (pj_rS (q := 25) (c_X12_in k (lN 0) c.toInt64 0 c.toInt (by decide) (by simp)) (pj_d p_X12_bet 14 rfl) rfl kX12_57 o_X12_in (by rfl) (by rfl) (Nat.le_of_ble_eq_true rfl) (by decide)) (by decide) (by decide) ?_
  refine pj_if_eq (t := 38) (q := 28) (pj_d p_X12_bet 15 rfl) rfl (by decide) (fun c2 => ?_) (fun c2 => ?_)
  · exact bad (by rw [(gd_b_z _).mp c2]; simp)
  refine pj_ild3 (q := 29) (pj_d p_X12_bet 16 rfl) rfl ?_
  refine pj_i2l (q := 30) (pj_d p_X12_bet 17 rfl) rfl ?_
  refine pj_lconst (q := 31) (v := lN 0) (pj_d p_X12_bet 18 rfl) rfl (by decide) ?_
  refine pj_lconst (q := 32) (v := lN 1) (pj_d p_X12_bet 19 rfl) rfl (by decide) ?_
  refine pj_cp (pj_rS (q := 35) (c_X12_in w (lN 0) (lN 1) 0 1 (by decide) (by decide)) (pj_d p_X12_bet 20 rfl) rfl kX12_57 o_X12_in (by rfl) (by rfl) (Nat.le_of_ble_eq_true rfl) (by decide)) (by decide) (by decide) ?_
  refine pj_if_ne (t := 42) (q := 38) (pj_d p_X12_bet 21 rfl) rfl (by decide) (fun c3 => ?_) (fun c3 => ?_)
  · have e1 := (gd_b_n _).mp c1
    have e2 := (gd_b_n _).mp c2
    have e3 := (gd_b_n _).mp c3
    obtain ⟨c', hc, rfl, hcc⟩ := gd_rng_of (hi := 12) e1
    have hci : (nI c').toInt = (c' : Int) := nI_toInt (by omega)
    obtain ⟨k', hk, rfl, hkc⟩ := gd_rngc hc e2
    obtain ⟨j, hj, rfl, hjc⟩ := gd_rng_of (hi := 1) e3
    have hji : (nI j).toInt = (j : Int) := nI_toInt (by omega)
    have hsp : sp_bet (nI c') (nI k') (nI j) = if j = 0 then lN (gd_aM c' k' / Nat.gcd (5 ^ c') (gd_aM c' k')) else lN (5 ^ c' / Nat.gcd (5 ^ c') (gd_aM c' k')) := by
      rw [sp_bet, e1, e2, e3, hcc, hkc, hji]
      simp
    rw [hsp]
    have ba := gd_aM_lt c' (by omega) k' (by omega)
    obtain ⟨b5, b50, b4⟩ := gd_5 c' (by omega)
    refine pj_lconst (q := 43) (v := lN 1) (pj_d p_X12_bet 24 rfl) rfl (by decide) ?_
    refine pj_lst4 (q := 45) (pj_d p_X12_bet 25 rfl) rfl (by first | rfl | assumption) ?_
    refine pj_lconst (q := 46) (v := lN 1) (pj_d p_X12_bet 26 rfl) rfl (by decide) ?_
    refine pj_lst6 (q := 48) (pj_d p_X12_bet 27 rfl) rfl (by first | rfl | assumption) ?_
    refine pj_iconst (q := 49) (v := nI 0) (pj_d p_X12_bet 28 rfl) rfl (by decide) ?_
    refine pj_ist8 (q := 51) (pj_d p_X12_bet 29 rfl) rfl (by first | rfl | assumption) ?_
    have eucl : ∀ m x y o14, y < m → Nat.gcd (5 ^ c') (gd_aM c' k') = Nat.gcd y x → x < 1099511627776 → y < 1099511627776 → pj_V E B l Y_X12_bet 2 0 0 142 [some (.ref g), some (.int (nI c')), some (.int (nI k')), some (.int (nI j)), some (.long (lN (5 ^ c'))), none, some (.long (lN (gd_it c' (c' + 1)))), none, some (.long (lN (gd_aM c' k'))), none, some (.long (lN x)), none, some (.long (lN y)), none, o14, none] [] h n 0 0 (pj_is (some (.long (if j = 0 then lN (gd_aM c' k' / Nat.gcd (5 ^ c') (gd_aM c' k')) else lN (5 ^ c' / Nat.gcd (5 ^ c') (gd_aM c' k'))))) h n) := by
      intro m
      induction m with
      | zero => intro x y o14 hi; exact absurd hi (Nat.not_lt_zero _)
      | succ m ih =>
        intro x y o14 hi hg hx hy
        have hgp : 0 < Nat.gcd (5 ^ c') (gd_aM c' k') := Nat.gcd_pos_of_pos_left _ b50
        refine pj_lld12 (q := 144) (pj_d p_X12_bet 79 rfl) rfl ?_
        refine pj_lconst (q := 145) (v := lN 0) (pj_d p_X12_bet 80 rfl) rfl (by decide) ?_
        refine pj_lcmp (q := 146) (pj_d p_X12_bet 81 rfl) rfl ?_
        refine pj_if_eq (t := 167) (q := 149) (pj_d p_X12_bet 82 rfl) rfl (by decide) (fun c6 => ?_) (fun c6 => ?_)
        · have h0 := gd_lz (by omega) ((lg_cmp_eq _ _).mp c6)
          rw [h0, Nat.gcd_zero_left] at hg
          refine pj_ild3 (q := 168) (pj_d p_X12_bet 92 rfl) rfl ?_
          refine pj_if_ne (t := 176) (q := 171) (pj_d p_X12_bet 93 rfl) rfl (by decide) (fun c7 => ?_) (fun c7 => ?_)
          · have hj0 : ¬ j = 0 := fun q => c7 (by rw [q]; rfl)
            refine pj_lld4 (q := 178) (pj_d p_X12_bet 96 rfl) rfl ?_
            refine pj_lld10 (q := 180) (pj_d p_X12_bet 97 rfl) rfl ?_
            refine pj_ldiv (q := 181) (pj_d p_X12_bet 98 rfl) rfl (gd_lne (by omega) (by omega)) ?_
            rw [pk_lDiv (by omega) (by omega) (by omega)]
            refine pj_lret rfl (pj_d p_X12_bet 99 rfl) (by decide) (by decide) ?_
            exact ⟨by rw [if_neg hj0, hg], rfl, rfl⟩
          · have hj0 : j = 0 := (nI_eq (by omega) (by omega)).mp (c7.trans nI_0.symm)
            refine pj_lld8 (q := 173) (pj_d p_X12_bet 94 rfl) rfl ?_
            refine pj_goto (t := 178) (pj_d p_X12_bet 95 rfl) (by decide) ?_
            refine pj_lld10 (q := 180) (pj_d p_X12_bet 97 rfl) rfl ?_
            refine pj_ldiv (q := 181) (pj_d p_X12_bet 98 rfl) rfl (gd_lne (by omega) (by omega)) ?_
            rw [pk_lDiv (by omega) (by omega) (by omega)]
            refine pj_lret rfl (pj_d p_X12_bet 99 rfl) (by decide) (by decide) ?_
            exact ⟨by rw [if_pos hj0, hg], rfl, rfl⟩
        have h0 : ¬ y = 0 := fun q => c6 ((lg_cmp_eq _ _).mpr (by rw [q]))
        have hm := Nat.mod_lt x (Nat.pos_of_ne_zero h0)
        refine pj_lld10 (q := 151) (pj_d p_X12_bet 83 rfl) rfl ?_
        refine pj_lld12 (q := 153) (pj_d p_X12_bet 84 rfl) rfl ?_
        refine pj_lrem (q := 154) (pj_d p_X12_bet 85 rfl) rfl (gd_lne (by omega) (by omega)) ?_
        rw [pk_lRem (by omega) (by omega) (by omega)]
        refine pj_lst14 (q := 156) (pj_d p_X12_bet 86 rfl) rfl (by first | rfl | assumption) ?_
        refine pj_lld12 (q := 158) (pj_d p_X12_bet 87 rfl) rfl ?_
        refine pj_lst10 (q := 160) (pj_d p_X12_bet 88 rfl) rfl (by first | rfl | assumption) ?_
        refine pj_lld14 (q := 162) (pj_d p_X12_bet 89 rfl) rfl ?_
        refine pj_lst12 (q := 164) (pj_d p_X12_bet 90 rfl) rfl (by first | rfl | assumption) ?_
        refine pj_goto (t := 142) (pj_d p_X12_bet 91 rfl) (by decide) ?_
        exact ih y (x % y) _ (by omega) (by rw [hg, Nat.gcd_rec]) hy (by omega)
    have second : ∀ m i o11 o12 o13 o14, c' + 1 - i < m → i ≤ c' + 1 → pj_V E B l Y_X12_bet 2 0 0 85 [some (.ref g), some (.int (nI c')), some (.int (nI k')), some (.int (nI j)), some (.long (lN (5 ^ c'))), none, some (.long (lN (gd_it c' i))), none, some (.long (lN (gd_sm (fun j => if k' ≤ j then gd_it c' j else 0) i))), none, some (.int (nI i)), o11, o12, o13, o14, none] [] h n 0 0 (pj_is (some (.long (if j = 0 then lN (gd_aM c' k' / Nat.gcd (5 ^ c') (gd_aM c' k')) else lN (5 ^ c' / Nat.gcd (5 ^ c') (gd_aM c' k'))))) h n) := by
      intro m
      generalize hf : (fun j => if k' ≤ j then gd_it c' j else 0) = f
      induction m with
      | zero => intro i o11 o12 o13 o14 hi; omega
      | succ m ih =>
        intro i o11 o12 o13 o14 hi hle
        refine pj_ild10 (q := 87) (pj_d p_X12_bet 47 rfl) rfl ?_
        refine pj_ild1 (q := 88) (pj_d p_X12_bet 48 rfl) rfl ?_
        refine pj_icmp_gt (t := 134) (q := 91) (pj_d p_X12_bet 49 rfl) rfl (by decide) (fun c4 => ?_) (fun c4 => ?_)
        · have he : i = c' + 1 := by have := (nI_ltI (by omega) (by omega)).mp c4; omega
          subst he
          rw [show gd_sm f (c' + 1) = gd_aM c' k' by rw [← hf]; rfl]
          refine pj_lld8 (q := 136) (pj_d p_X12_bet 75 rfl) rfl ?_
          refine pj_lst10 (q := 138) (pj_d p_X12_bet 76 rfl) rfl (by first | rfl | assumption) ?_
          refine pj_lld4 (q := 140) (pj_d p_X12_bet 77 rfl) rfl ?_
          refine pj_lst12 (q := 142) (pj_d p_X12_bet 78 rfl) rfl (by first | rfl | assumption) ?_
          exact eucl (5 ^ c' + 1) (gd_aM c' k') (5 ^ c') _ (by omega) rfl ba b5
        have hlt : i < c' + 1 := by
          rcases Nat.lt_or_ge i (c' + 1) with q | q
          · exact q
          · exact absurd (nI_lt (show c' < i by omega) (by omega)) c4
        have bi := gd_it_lt c' (by omega) i (by omega)
        have bx : gd_it c' i * (c' - i) ≤ 1099511627776 * 12 := Nat.mul_le_mul (by omega) (by omega)
        refine pj_lld8 (q := 93) (pj_d p_X12_bet 50 rfl) rfl ?_
        refine pj_ild10 (q := 95) (pj_d p_X12_bet 51 rfl) rfl ?_
        refine pj_ild2 (q := 96) (pj_d p_X12_bet 52 rfl) rfl ?_
        have fin : ∀ z, gd_sm f i + z = gd_sm f (i + 1) → pj_V E B l Y_X12_bet 2 0 0 105 [some (.ref g), some (.int (nI c')), some (.int (nI k')), some (.int (nI j)), some (.long (lN (5 ^ c'))), none, some (.long (lN (gd_it c' i))), none, some (.long (lN (gd_sm f i))), none, some (.int (nI i)), o11, o12, o13, o14, none] [.long (lN z), .long (lN (gd_sm f i))] h n 0 0 (pj_is (some (.long (if j = 0 then lN (gd_aM c' k' / Nat.gcd (5 ^ c') (gd_aM c' k')) else lN (5 ^ c' / Nat.gcd (5 ^ c') (gd_aM c' k'))))) h n) := by
          intro z hz
          refine pj_ladd (q := 106) (pj_d p_X12_bet 57 rfl) rfl ?_
          rw [lN_add, hz]
          refine pj_lst8 (q := 108) (pj_d p_X12_bet 58 rfl) rfl (by first | rfl | assumption) ?_
          refine pj_lld6 (q := 110) (pj_d p_X12_bet 59 rfl) rfl ?_
          refine pj_ild1 (q := 111) (pj_d p_X12_bet 60 rfl) rfl ?_
          refine pj_ild10 (q := 113) (pj_d p_X12_bet 61 rfl) rfl ?_
          refine pj_isub (q := 114) (pj_d p_X12_bet 62 rfl) rfl ?_
          rw [gd_sub (by omega)]
          refine pj_i2l (q := 115) (pj_d p_X12_bet 63 rfl) rfl ?_
          rw [nI_l (by omega)]
          refine pj_lmul (q := 116) (pj_d p_X12_bet 64 rfl) rfl ?_
          rw [lN_mul]
          refine pj_ldc2 (q := 119) (pj_d p_X12_bet 65 rfl) rfl kX12_229 ?_
          refine pj_ild10 (q := 121) (pj_d p_X12_bet 66 rfl) rfl ?_
          refine pj_iconst (q := 122) (v := nI 1) (pj_d p_X12_bet 67 rfl) rfl (by decide) ?_
          refine pj_iadd (q := 123) (pj_d p_X12_bet 68 rfl) rfl ?_
          rw [nI_add]
          refine pj_i2l (q := 124) (pj_d p_X12_bet 69 rfl) rfl ?_
          rw [nI_l (by omega)]
          refine pj_lmul (q := 125) (pj_d p_X12_bet 70 rfl) rfl ?_
          rw [show (4 : Int64) = lN 4 from rfl, lN_mul]
          refine pj_ldiv (q := 126) (pj_d p_X12_bet 71 rfl) rfl (gd_lne (by omega) (by omega)) ?_
          rw [pk_lDiv (by omega) (by omega) (by omega)]
          refine pj_lst6 (q := 128) (pj_d p_X12_bet 72 rfl) rfl (by first | rfl | assumption) ?_
          refine pj_iinc10 (q := 131) (v := 1) (pj_d p_X12_bet 73 rfl) rfl (by first | rfl | assumption) (by decide) ?_
          refine pj_goto (t := 85) (pj_d p_X12_bet 74 rfl) (by decide) ?_
          rw [nI_1]
          exact ih (i + 1) _ _ _ _ (by omega) (by omega)
        refine pj_icmp_lt (t := 104) (q := 99) (pj_d p_X12_bet 53 rfl) rfl (by decide) (fun c5 => ?_) (fun c5 => ?_)
        · have hki : ¬ k' ≤ i := by have := (nI_ltI (by omega) (by omega)).mp c5; omega
          refine pj_lconst (q := 105) (v := lN 0) (pj_d p_X12_bet 56 rfl) rfl (by decide) ?_
          exact fin 0 (by rw [gd_sm, ← hf]; simp only [if_neg hki])
        · have hki : k' ≤ i := by
            rcases Nat.lt_or_ge i k' with q | q
            · exact absurd (nI_lt q (by omega)) c5
            · exact q
          refine pj_lld6 (q := 101) (pj_d p_X12_bet 54 rfl) rfl ?_
          refine pj_goto (t := 105) (pj_d p_X12_bet 55 rfl) (by decide) ?_
          exact fin _ (by rw [gd_sm, ← hf]; simp only [if_pos hki])
    have first : ∀ m i, c' - i < m → i ≤ c' → pj_V E B l Y_X12_bet 2 0 0 51 [some (.ref g), some (.int (nI c')), some (.int (nI k')), some (.int (nI j)), some (.long (lN (5 ^ i))), none, some (.long (lN (4 ^ i))), none, some (.int (nI i)), none, none, none, none, none, none, none] [] h n 0 0 (pj_is (some (.long (if j = 0 then lN (gd_aM c' k' / Nat.gcd (5 ^ c') (gd_aM c' k')) else lN (5 ^ c' / Nat.gcd (5 ^ c') (gd_aM c' k'))))) h n) := by
      intro m
      induction m with
      | zero => intro i hi; omega
      | succ m ih =>
        intro i hi hle
        refine pj_ild8 (q := 53) (pj_d p_X12_bet 30 rfl) rfl ?_
        refine pj_ild1 (q := 54) (pj_d p_X12_bet 31 rfl) rfl ?_
        refine pj_icmp_ge (t := 79) (q := 57) (pj_d p_X12_bet 32 rfl) rfl (by decide) (fun c4 => ?_) (fun c4 => ?_)
        · have he : i = c' := by have := gd_ge c4 (by omega) (by omega); omega
          subst he
          refine pj_lconst (q := 80) (v := lN 0) (pj_d p_X12_bet 43 rfl) rfl (by decide) ?_
          refine pj_lst8 (q := 82) (pj_d p_X12_bet 44 rfl) rfl (by first | rfl | assumption) ?_
          refine pj_iconst (q := 83) (v := nI 0) (pj_d p_X12_bet 45 rfl) rfl (by decide) ?_
          refine pj_ist10 (q := 85) (pj_d p_X12_bet 46 rfl) rfl (by first | rfl | assumption) ?_
          exact second (i + 2) 0 _ _ _ _ (by omega) (by omega)
        have hlt : i < c' := gd_lt c4 (by omega)
        refine pj_lld4 (q := 59) (pj_d p_X12_bet 33 rfl) rfl ?_
        refine pj_ldc2 (q := 62) (pj_d p_X12_bet 34 rfl) rfl kX12_189 ?_
        refine pj_lmul (q := 63) (pj_d p_X12_bet 35 rfl) rfl ?_
        rw [show (5 : Int64) = lN 5 from rfl, lN_mul, ← Nat.pow_succ]
        refine pj_lst4 (q := 65) (pj_d p_X12_bet 36 rfl) rfl (by first | rfl | assumption) ?_
        refine pj_lld6 (q := 67) (pj_d p_X12_bet 37 rfl) rfl ?_
        refine pj_ldc2 (q := 70) (pj_d p_X12_bet 38 rfl) rfl kX12_229 ?_
        refine pj_lmul (q := 71) (pj_d p_X12_bet 39 rfl) rfl ?_
        rw [show (4 : Int64) = lN 4 from rfl, lN_mul, ← Nat.pow_succ]
        refine pj_lst6 (q := 73) (pj_d p_X12_bet 40 rfl) rfl (by first | rfl | assumption) ?_
        refine pj_iinc8 (q := 76) (v := 1) (pj_d p_X12_bet 41 rfl) rfl (by first | rfl | assumption) (by decide) ?_
        refine pj_goto (t := 51) (pj_d p_X12_bet 42 rfl) (by decide) ?_
        rw [nI_1]
        exact ih (i + 1) (by omega) (by omega)
    exact first (c' + 1) 0 (by omega) (by omega)
  · exact bad (by rw [(gd_b_z _).mp c3]; simp)
end
