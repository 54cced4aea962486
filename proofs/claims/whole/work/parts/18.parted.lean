/-! ===== parted, thief: in the order of codes 7a + b ===== -/
def gd_ct (p : Nat → Bool) : Nat → Nat
  | 0 => 0
  | i + 1 => gd_ct p i + (if p i then 1 else 0)
def gd_fs (p : Nat → Bool) : Nat → Int32
  | 0 => -1000000
  | i + 1 => if gd_ct p i = 0 ∧ p i = true then nI i else gd_fs p i
theorem gd_ct_skip {p : Nat → Bool} {i : Nat} : ∀ j, (∀ c, i ≤ c → c < i + j → p c = false) → gd_ct p (i + j) = gd_ct p i ∧ gd_fs p (i + j) = gd_fs p i
  | 0, _ => ⟨rfl, rfl⟩
  | j + 1, h => by
    obtain ⟨h1, h2⟩ := gd_ct_skip j (fun c a b => h c a (by omega))
    have h3 := h (i + j) (by omega) (by omega)
    refine ⟨?_, ?_⟩
    · rw [← Nat.add_assoc, gd_ct, h1, h3]; rfl
    · rw [← Nat.add_assoc, gd_fs, h3, if_neg (by simp), h2]
theorem gd_ct_to {p : Nat → Bool} {i j : Nat} (hij : i ≤ j) (h : ∀ c, i ≤ c → c < j → p c = false) : gd_ct p j = gd_ct p i ∧ gd_fs p j = gd_fs p i := by
  have := gd_ct_skip (p := p) (i := i) (j - i) (fun c a b => h c a (by omega))
  rwa [show i + (j - i) = j by omega] at this
theorem gd_ct_mono {p : Nat → Bool} (i : Nat) : ∀ j, gd_ct p i ≤ gd_ct p (i + j)
  | 0 => Nat.le_refl _
  | j + 1 => by
    have := gd_ct_mono (p := p) i j
    rw [← Nat.add_assoc, gd_ct]
    omega
theorem gd_ct_le {p : Nat → Bool} : ∀ i, gd_ct p i ≤ i
  | 0 => Nat.le_refl _
  | i + 1 => by
    have := gd_ct_le (p := p) i
    rw [gd_ct]
    split <;> omega
theorem gd_fs_at {p : Nat → Bool} {c : Nat} (h0 : gd_ct p c = 0) (hp : p c = true) : ∀ j, gd_fs p (c + 1 + j) = nI c
  | 0 => by rw [Nat.add_zero, gd_fs, if_pos ⟨h0, hp⟩]
  | j + 1 => by
    rw [← Nat.add_assoc, gd_fs, if_neg, gd_fs_at h0 hp j]
    have h1 := gd_ct_mono (p := p) (c + 1) j
    rw [gd_ct, hp] at h1
    simp at h1
    intro q
    omega
def gd_pp (τ : Nat → Nat) (d e a b : Nat) : Bool := decide (gd_lk τ a (gd_miss τ d) = gd_lk τ b (gd_miss τ d)) && !decide (gd_lk τ a (gd_miss τ e) = gd_lk τ b (gd_miss τ e))
def gd_pc (τ : Nat → Nat) (d e c : Nat) : Bool := decide (c / 7 < c % 7 ∧ c % 7 < τ 1) && gd_pp τ d e (c / 7) (c % 7)
theorem gd_pc_in {τ : Nat → Nat} {d e a b : Nat} (h7 : τ 1 ≤ 7) (hab : a < b) (hb : b < τ 1) : gd_pc τ d e (7 * a + b) = gd_pp τ d e a b := by
  have e1 : (7 * a + b) / 7 = a := by omega
  have e2 : (7 * a + b) % 7 = b := by omega
  rw [gd_pc, e1, e2, decide_eq_true ⟨hab, hb⟩]; rfl
theorem gd_pc_out {τ : Nat → Nat} {d e c : Nat} (h : ¬ (c / 7 < c % 7 ∧ c % 7 < τ 1)) : gd_pc τ d e c = false := by
  rw [gd_pc, decide_eq_false h]; rfl
def sp_parted (τ : Nat → Nat) (d e w : Int32) : Int32 := if τ 0 = 1 then (if gd_rng d 0 100 && gd_rng e 0 100 && gd_rng w 0 1 then (if w.toInt = 0 then nI (gd_ct (gd_pc τ d.toNatClampNeg e.toNatClampNeg) 49) else gd_fs (gd_pc τ d.toNatClampNeg e.toNatClampNeg) 49) else -1000001) else -1000002
def gd_ot (τ : Nat → Nat) (c : Nat) : Nat := gd_bits (gd_like τ (c % 7) (gd_miss τ (c / 7))) - 1
def gd_tf (τ : Nat → Nat) : Nat → Option (Nat × Nat)
  | 0 => none
  | c + 1 => if c % 7 < τ 1 ∧ (∀ q, gd_tf τ c = some q → q.2 < gd_ot τ c) then some (c, gd_ot τ c) else gd_tf τ c
def gd_o1 (o : Option (Nat × Nat)) : Int32 := match o with
  | none => -1000000
  | some q => nI q.1
def gd_o2 (o : Option (Nat × Nat)) : Int32 := match o with
  | none => -1000000
  | some q => nI q.2
def sp_thief (τ : Nat → Nat) (w : Int32) : Int32 := if τ 0 = 1 then (if gd_rng w 0 1 then (if w.toInt = 0 then gd_o1 (gd_tf τ 49) else gd_o2 (gd_tf τ 49)) else -1000001) else -1000002
theorem gd_tf_skip {τ : Nat → Nat} {i j : Nat} (hij : i ≤ j) (h : ∀ c, i ≤ c → c < j → ¬ c % 7 < τ 1) : gd_tf τ j = gd_tf τ i := by
  obtain ⟨m, rfl⟩ := Nat.exists_eq_add_of_le hij
  induction m with
  | zero => rfl
  | succ m ih =>
    rw [← Nat.add_assoc, gd_tf, if_neg (fun q => h (i + m) (by omega) (by omega) q.1)]
    exact ih (by omega) (fun c a b => h c a (by omega))
theorem gd_sm_ge {f : Nat → Nat} {t : Nat} : ∀ {m : Nat}, t < m → f t ≤ gd_sm f m
  | m + 1, h => by
    rw [gd_sm]
    by_cases e : t = m
    · subst e; omega
    · have := gd_sm_ge (f := f) (t := t) (m := m) (by omega); omega
theorem gd_bits_pos : ∀ x, x < 128 → x ≠ 0 → 1 ≤ gd_bits x := by decide +kernel
theorem gd_like_pos {τ : Nat → Nat} {t st : Nat} (ht : t < τ 1) : gd_like τ t st ≠ 0 := by
  have := gd_sm_ge (f := fun k => if gd_lk τ k st = gd_lk τ t st then 2 ^ k else 0) ht
  simp only [if_true] at this
  have h2 : 0 < 2 ^ t := Nat.pow_pos (by omega)
  unfold gd_like
  omega
theorem gd_like128 {τ : Nat → Nat} (h7 : τ 1 ≤ 7) (t st : Nat) : gd_like τ t st < 128 := by
  have h2 := gd_like_lt τ t st (τ 1)
  have h3 : 2 ^ τ 1 ≤ 2 ^ 7 := Nat.pow_le_pow_right (by omega) h7
  exact Nat.lt_of_lt_of_le h2 h3
theorem gd_ot_le (τ : Nat → Nat) (c : Nat) : gd_ot τ c ≤ 7 := by
  have := gd_bits_le (gd_like τ (c % 7) (gd_miss τ (c / 7)))
  unfold gd_ot; omega
theorem gd_tf_le (τ : Nat → Nat) : ∀ c q, gd_tf τ c = some q → q.2 ≤ 7 ∧ q.1 < c
  | 0, q, h => by cases h
  | c + 1, q, h => by
    rw [gd_tf] at h
    split at h
    · cases h; exact ⟨gd_ot_le τ c, by simp⟩
    · have := gd_tf_le τ c q h; exact ⟨this.1, by omega⟩
theorem gd_otI {τ : Nat → Nat} (h7 : τ 1 ≤ 7) {t d : Nat} (ht : t < τ 1) : nI (gd_bits (gd_like τ t (gd_miss τ d))) - nI 1 = nI (gd_ot τ (7 * d + t)) := by
  have e1 : (7 * d + t) / 7 = d := by omega
  have e2 : (7 * d + t) % 7 = t := by omega
  rw [gd_ot, e1, e2]
  exact pk_sub (gd_bits_pos _ (gd_like128 h7 _ _) (gd_like_pos ht))
/-- 'more than the most so far', as the machine compares -/
theorem gd_more {τ : Nat → Nat} (c : Nat) : (nI (gd_ot τ c) ≤ gd_o2 (gd_tf τ c)) ↔ ¬ (∀ q, gd_tf τ c = some q → q.2 < gd_ot τ c) := by
  have h1 := gd_ot_le τ c
  cases hm : gd_tf τ c with
  | none =>
    constructor
    · intro hle
      rw [Int32.le_iff_toInt_le, nI_toInt (by omega), show (gd_o2 none).toInt = -1000000 from by decide] at hle
      omega
    · intro hn
      exact absurd (fun q hq => by cases hq) hn
  | some q =>
    have h2 := (gd_tf_le τ c q hm).1
    constructor
    · intro hle hn
      have := (nI_leI (by omega) (by omega)).mp hle
      have := hn q rfl
      omega
    · intro hn
      refine nI_le ?_ (by omega)
      rcases Nat.lt_or_ge q.2 (gd_ot τ c) with z | z
      · exact absurd (fun q' hq' => by cases hq'; exact z) hn
      · exact z
section
variable {E : pj_E} {B : Nat} {l : Launch} {h : pj_H} {n g : Nat} {τ : Nat → Nat} {v : Nat → Int32}
theorem c_X12_parted (hR : gd_MR h g v τ) (d e w : Int32) : pj_Ct E B l Y_X12_parted 4 0 0 [.ref g, .int d, .int e, .int w] h n (pj_is (some (.int (sp_parted τ d e w))) h n) := by
  obtain ⟨hM, hT, hv, hW, h1⟩ := hR
  have h7 := hW.1
  have h8 := hW.2.1
  refine pj_in rfl (ls := [some (.ref g), some (.int (d)), some (.int (e)), some (.int (w)), none, none, none, none, none]) rfl (Nat.le_of_ble_eq_true rfl) ?_
  refine gd_thr (pj_d p_X12_parted 0 rfl) (pj_d p_X12_parted 1 rfl) (pj_d p_X12_parted 2 rfl) rfl hM hv ?_
  refine pj_ald0 (q := 6) (pj_d p_X12_parted 3 rfl) rfl ?_
  refine pj_cp (pj_rV (q := 9) (c_X12_isThere hM hT h1) (pj_d p_X12_parted 4 rfl) rfl kX12_176 o_X12_isThere (by assumption) (by rfl) (by rfl) (by rfl) (by rfl) (Nat.le_of_ble_eq_true rfl) (by decide)) (by decide) (by decide) ?_
  refine pj_if_ne (t := 15) (q := 12) (pj_d p_X12_parted 5 rfl) rfl (by decide) (fun c1 => ?_) (fun c1 => ?_)
  rotate_left
  · have ht := gd_dec_f c1
    refine pj_ldc (q := 14) (pj_d p_X12_parted 6 rfl) rfl kX12_179 ?_
    refine pj_iret rfl (pj_d p_X12_parted 7 rfl) (by decide) (by decide) ?_
    exact ⟨by simp [sp_parted, ht], rfl, rfl⟩
  have ht := gd_dec_t c1
  have bad : (gd_rng d 0 100 && gd_rng e 0 100 && gd_rng w 0 1) = false → pj_V E B l Y_X12_parted 4 0 0 39 [some (.ref g), some (.int (d)), some (.int (e)), some (.int (w)), none, none, none, none, none] [] h n 0 0 (pj_is (some (.int (sp_parted τ d e w))) h n) := by
    intro hx
    refine pj_ldc (q := 41) (pj_d p_X12_parted 20 rfl) rfl kX12_67 ?_
    refine pj_iret rfl (pj_d p_X12_parted 21 rfl) (by decide) (by decide) ?_
    exact ⟨by rw [sp_parted, if_pos ht, hx]; rfl, rfl, rfl⟩
  refine pj_ild1 (q := 16) (pj_d p_X12_parted 8 rfl) rfl ?_
  refine pj_cp (pj_rS (q := 19) (c_X12_isFar d) (pj_d p_X12_parted 9 rfl) rfl kX12_195 o_X12_isFar (by rfl) (by rfl) (Nat.le_of_ble_eq_true rfl) (by decide)) (by decide) (by decide) ?_
  refine pj_if_eq (t := 39) (q := 22) (pj_d p_X12_parted 10 rfl) rfl (by decide) (fun c2 => ?_) (fun c2 => ?_)
  · exact bad (by rw [(gd_b_z _).mp c2]; rfl)
  refine pj_ild2 (q := 23) (pj_d p_X12_parted 11 rfl) rfl ?_
  refine pj_cp (pj_rS (q := 26) (c_X12_isFar e) (pj_d p_X12_parted 12 rfl) rfl kX12_195 o_X12_isFar (by rfl) (by rfl) (Nat.le_of_ble_eq_true rfl) (by decide)) (by decide) (by decide) ?_
  refine pj_if_eq (t := 39) (q := 29) (pj_d p_X12_parted 13 rfl) rfl (by decide) (fun c3 => ?_) (fun c3 => ?_)
  · exact bad (by rw [(gd_b_z _).mp c3]; simp)
  refine pj_ild3 (q := 30) (pj_d p_X12_parted 14 rfl) rfl ?_
  refine pj_i2l (q := 31) (pj_d p_X12_parted 15 rfl) rfl ?_
  refine pj_lconst (q := 32) (v := lN 0) (pj_d p_X12_parted 16 rfl) rfl (by decide) ?_
  refine pj_lconst (q := 33) (v := lN 1) (pj_d p_X12_parted 17 rfl) rfl (by decide) ?_
  refine pj_cp (pj_rS (q := 36) (c_X12_in w (lN 0) (lN 1) 0 1 (by decide) (by decide)) (pj_d p_X12_parted 18 rfl) rfl kX12_57 o_X12_in (by rfl) (by rfl) (Nat.le_of_ble_eq_true rfl) (by decide)) (by decide) (by decide) ?_
  refine pj_if_ne (t := 42) (q := 39) (pj_d p_X12_parted 19 rfl) rfl (by decide) (fun c4 => ?_) (fun c4 => ?_)
  · have e1 := (gd_b_n _).mp c2
    have e2 := (gd_b_n _).mp c3
    have e3 := (gd_b_n _).mp c4
    obtain ⟨d', hd, rfl, hdc⟩ := gd_rng_of (hi := 100) e1
    obtain ⟨e', he, rfl, hec⟩ := gd_rng_of (hi := 100) e2
    obtain ⟨j, hj, rfl, hjc⟩ := gd_rng_of (hi := 1) e3
    have hji : (nI j).toInt = (j : Int) := nI_toInt (by omega)
    have hsp : sp_parted τ (nI d') (nI e') (nI j) = if j = 0 then nI (gd_ct (gd_pc τ d' e') 49) else gd_fs (gd_pc τ d' e') 49 := by
      rw [sp_parted, if_pos ht, e1, e2, e3, hdc, hec, hji]
      simp
    rw [hsp]
    generalize hp : gd_pc τ d' e' = p
    refine pj_iconst (q := 43) (v := nI 0) (pj_d p_X12_parted 22 rfl) rfl (by decide) ?_
    refine pj_ist4 (q := 45) (pj_d p_X12_parted 23 rfl) rfl (by first | rfl | assumption) ?_
    refine pj_ldc (q := 47) (pj_d p_X12_parted 24 rfl) rfl kX12_90 ?_
    refine pj_ist5 (q := 49) (pj_d p_X12_parted 25 rfl) rfl (by first | rfl | assumption) ?_
    refine pj_iconst (q := 50) (v := nI 0) (pj_d p_X12_parted 26 rfl) rfl (by decide) ?_
    refine pj_ist6 (q := 52) (pj_d p_X12_parted 27 rfl) rfl (by first | rfl | assumption) ?_
    have outer : ∀ m a o7 o8, pj_c1 o7 = true → pj_c1 o8 = true → τ 1 - a < m → a ≤ τ 1 → pj_V E B l Y_X12_parted 4 0 0 52 [some (.ref g), some (.int (nI d')), some (.int (nI e')), some (.int (nI j)), some (.int (nI (gd_ct p (7 * a)))), some (.int (gd_fs p (7 * a))), some (.int (nI a)), o7, o8] [] h n 0 0 (pj_is (some (.int (if j = 0 then nI (gd_ct p 49) else gd_fs p 49))) h n) := by
      intro m
      induction m with
      | zero => intro a o7 o8 _ _ hi; omega
      | succ m ih =>
        intro a o7 o8 k7 k8 hi hle
        refine pj_ild6 (q := 54) (pj_d p_X12_parted 28 rfl) rfl ?_
        refine pj_ald0 (q := 55) (pj_d p_X12_parted 29 rfl) rfl ?_
        refine pj_gf (q := 58) (k := 5) (pj_d p_X12_parted 30 rfl) rfl kX12_19 (by assumption) (by rfl) (by rfl) ?_
        refine pj_iconst (q := 59) (v := nI 1) (pj_d p_X12_parted 31 rfl) rfl (by decide) ?_
        refine pj_ialdN (q := 60) (pj_d p_X12_parted 32 rfl) rfl (by assumption) (by rfl) (by first | assumption | omega) (Nat.le_of_ble_eq_true rfl) ?_
        refine pj_icmp_ge (t := 163) (q := 63) (pj_d p_X12_parted 33 rfl) rfl (by decide) (fun c5 => ?_) (fun c5 => ?_)
        · have he : a = (τ 1) := by have := gd_ge c5 (by omega) (by omega); omega
          subst he
          obtain ⟨s1, s2⟩ := gd_ct_to (p := p) (i := 7 * τ 1) (j := 49) (by omega) (fun c h1 h2 => by rw [← hp]; exact gd_pc_out (by omega))
          refine pj_ild3 (q := 164) (pj_d p_X12_parted 84 rfl) rfl ?_
          refine pj_if_ne (t := 172) (q := 167) (pj_d p_X12_parted 85 rfl) rfl (by decide) (fun c6 => ?_) (fun c6 => ?_)
          · have hj0 : ¬ j = 0 := fun q => c6 (by rw [q]; rfl)
            refine pj_ild5 (q := 174) (pj_d p_X12_parted 88 rfl) rfl ?_
            refine pj_iret rfl (pj_d p_X12_parted 89 rfl) (by decide) (by decide) ?_
            exact ⟨by rw [if_neg hj0, s2], rfl, rfl⟩
          · have hj0 : j = 0 := (nI_eq (by omega) (by omega)).mp (c6.trans nI_0.symm)
            refine pj_ild4 (q := 169) (pj_d p_X12_parted 86 rfl) rfl ?_
            refine pj_goto (t := 174) (pj_d p_X12_parted 87 rfl) (by decide) ?_
            refine pj_iret rfl (pj_d p_X12_parted 89 rfl) (by decide) (by decide) ?_
            exact ⟨by rw [if_pos hj0, s1], rfl, rfl⟩
        have ha : a < τ 1 := gd_lt c5 (by omega)
        refine pj_ild6 (q := 65) (pj_d p_X12_parted 34 rfl) rfl ?_
        refine pj_iconst (q := 66) (v := nI 1) (pj_d p_X12_parted 35 rfl) rfl (by decide) ?_
        refine pj_iadd (q := 67) (pj_d p_X12_parted 36 rfl) rfl ?_
        rw [nI_add]
        refine pj_ist7 (q := 69) (pj_d p_X12_parted 37 rfl) rfl (by first | rfl | assumption) ?_
        have inner : ∀ m2 b o8, pj_c1 o8 = true → a < b → τ 1 - b < m2 → b ≤ τ 1 → pj_V E B l Y_X12_parted 4 0 0 69 [some (.ref g), some (.int (nI d')), some (.int (nI e')), some (.int (nI j)), some (.int (nI (gd_ct p (7 * a + b)))), some (.int (gd_fs p (7 * a + b))), some (.int (nI a)), some (.int (nI b)), o8] [] h n 0 0 (pj_is (some (.int (if j = 0 then nI (gd_ct p 49) else gd_fs p 49))) h n) := by
          intro m2
          induction m2 with
          | zero => intro b o8 _ _ hb; omega
          | succ m2 ih2 =>
            intro b o8 k8 hab hb hble
            refine pj_ild7 (q := 71) (pj_d p_X12_parted 38 rfl) rfl ?_
            refine pj_ald0 (q := 72) (pj_d p_X12_parted 39 rfl) rfl ?_
            refine pj_gf (q := 75) (k := 5) (pj_d p_X12_parted 40 rfl) rfl kX12_19 (by assumption) (by rfl) (by rfl) ?_
            refine pj_iconst (q := 76) (v := nI 1) (pj_d p_X12_parted 41 rfl) rfl (by decide) ?_
            refine pj_ialdN (q := 77) (pj_d p_X12_parted 42 rfl) rfl (by assumption) (by rfl) (by first | assumption | omega) (Nat.le_of_ble_eq_true rfl) ?_
            refine pj_icmp_ge (t := 157) (q := 80) (pj_d p_X12_parted 43 rfl) rfl (by decide) (fun c6 => ?_) (fun c6 => ?_)
            · have he : b = (τ 1) := by have := gd_ge c6 (by omega) (by omega); omega
              subst he
              obtain ⟨s1, s2⟩ := gd_ct_to (p := p) (i := 7 * a + τ 1) (j := 7 * (a + 1)) (by omega) (fun c h1 h2 => by rw [← hp]; exact gd_pc_out (by omega))
              rw [← s1, ← s2]
              refine pj_iinc6 (q := 160) (v := 1) (pj_d p_X12_parted 82 rfl) rfl (by first | rfl | assumption) (by decide) ?_
              refine pj_goto (t := 52) (pj_d p_X12_parted 83 rfl) (by decide) ?_
              rw [nI_1]
              exact ih (a + 1) _ _ rfl k8 (by omega) (by omega)
            have hbt : b < τ 1 := gd_lt c6 (by omega)
            have hpp : p (7 * a + b) = gd_pp τ d' e' a b := by rw [← hp]; exact gd_pc_in h7 hab hbt
            have hcl := gd_ct_le (p := p) (7 * a + b)
            have put : ∀ bb : Bool, p (7 * a + b) = bb → pj_V E B l Y_X12_parted 4 0 0 109 [some (.ref g), some (.int (nI d')), some (.int (nI e')), some (.int (nI j)), some (.int (nI (gd_ct p (7 * a + b)))), some (.int (gd_fs p (7 * a + b))), some (.int (nI a)), some (.int (nI b)), o8] [.int (gd_b bb)] h n 0 0 (pj_is (some (.int (if j = 0 then nI (gd_ct p 49) else gd_fs p 49))) h n) := by
              intro bb hbb
              refine pj_ist8 (q := 111) (pj_d p_X12_parted 59 rfl) rfl (by first | rfl | assumption) ?_
              refine pj_ild8 (q := 113) (pj_d p_X12_parted 60 rfl) rfl ?_
              have cnt : ∀ x y, x = gd_fs p (7 * a + b + 1) → pj_V E B l Y_X12_parted 4 0 0 134 [some (.ref g), some (.int (nI d')), some (.int (nI e')), some (.int (nI j)), some (.int (nI (gd_ct p (7 * a + b)))), some (.int (y)), some (.int (nI a)), some (.int (nI b)), some (.int (gd_b bb))] [.int x] h n 0 0 (pj_is (some (.int (if j = 0 then nI (gd_ct p 49) else gd_fs p 49))) h n) := by
                intro x y hx
                subst hx
                refine pj_ist5 (q := 136) (pj_d p_X12_parted 71 rfl) rfl (by first | rfl | assumption) ?_
                refine pj_ild4 (q := 138) (pj_d p_X12_parted 72 rfl) rfl ?_
                refine pj_ild8 (q := 140) (pj_d p_X12_parted 73 rfl) rfl ?_
                have fin : ∀ z, gd_ct p (7 * a + b) + z = gd_ct p (7 * a + b + 1) → pj_V E B l Y_X12_parted 4 0 0 148 [some (.ref g), some (.int (nI d')), some (.int (nI e')), some (.int (nI j)), some (.int (nI (gd_ct p (7 * a + b)))), some (.int (gd_fs p (7 * a + b + 1))), some (.int (nI a)), some (.int (nI b)), some (.int (gd_b bb))] [.int (nI z), .int (nI (gd_ct p (7 * a + b)))] h n 0 0 (pj_is (some (.int (if j = 0 then nI (gd_ct p 49) else gd_fs p 49))) h n) := by
                  intro z hz
                  refine pj_iadd (q := 149) (pj_d p_X12_parted 78 rfl) rfl ?_
                  rw [nI_add, hz]
                  refine pj_ist4 (q := 151) (pj_d p_X12_parted 79 rfl) rfl (by first | rfl | assumption) ?_
                  refine pj_iinc7 (q := 154) (v := 1) (pj_d p_X12_parted 80 rfl) rfl (by first | rfl | assumption) (by decide) ?_
                  refine pj_goto (t := 69) (pj_d p_X12_parted 81 rfl) (by decide) ?_
                  rw [nI_1]
                  exact ih2 (b + 1) _ rfl (by omega) (by omega) (by omega)
                refine pj_if_eq (t := 147) (q := 143) (pj_d p_X12_parted 74 rfl) rfl (by decide) (fun c8 => ?_) (fun c8 => ?_)
                · refine pj_iconst (q := 148) (v := nI 0) (pj_d p_X12_parted 77 rfl) rfl (by decide) ?_
                  exact fin 0 (by rw [gd_ct, hbb, (gd_b_z _).mp c8]; rfl)
                · refine pj_iconst (q := 144) (v := nI 1) (pj_d p_X12_parted 75 rfl) rfl (by decide) ?_
                  refine pj_goto (t := 148) (pj_d p_X12_parted 76 rfl) (by decide) ?_
                  exact fin 1 (by rw [gd_ct, hbb, (gd_b_n _).mp c8]; rfl)
              refine pj_if_eq (t := 132) (q := 116) (pj_d p_X12_parted 61 rfl) rfl (by decide) (fun c7 => ?_) (fun c7 => ?_)
              · refine pj_ild5 (q := 134) (pj_d p_X12_parted 70 rfl) rfl ?_
                exact cnt _ _ (by rw [gd_fs, hbb, (gd_b_z _).mp c7, if_neg (by simp)])
              refine pj_ild4 (q := 118) (pj_d p_X12_parted 62 rfl) rfl ?_
              refine pj_if_ne (t := 132) (q := 121) (pj_d p_X12_parted 63 rfl) rfl (by decide) (fun c8 => ?_) (fun c8 => ?_)
              · have hne : ¬ gd_ct p (7 * a + b) = 0 := fun q => c8 (by rw [q]; rfl)
                refine pj_ild5 (q := 134) (pj_d p_X12_parted 70 rfl) rfl ?_
                exact cnt _ _ (by rw [gd_fs, if_neg (fun q => hne q.1)])
              · have h0 := (nI_eq (by omega) (by omega)).mp (c8.trans nI_0.symm)
                refine pj_bipush (q := 123) (v := nI 7) (pj_d p_X12_parted 64 rfl) rfl (by decide) ?_
                refine pj_ild6 (q := 125) (pj_d p_X12_parted 65 rfl) rfl ?_
                refine pj_imul (q := 126) (pj_d p_X12_parted 66 rfl) rfl ?_
                refine pj_ild7 (q := 128) (pj_d p_X12_parted 67 rfl) rfl ?_
                refine pj_iadd (q := 129) (pj_d p_X12_parted 68 rfl) rfl ?_
                rw [pk_mul, nI_add]
                refine pj_goto (t := 134) (pj_d p_X12_parted 69 rfl) (by decide) ?_
                exact cnt _ _ (by rw [gd_fs, if_pos ⟨h0, by rw [hbb]; exact (gd_b_n _).mp c7⟩])
            refine pj_ald0 (q := 81) (pj_d p_X12_parted 44 rfl) rfl ?_
            refine pj_ild6 (q := 83) (pj_d p_X12_parted 45 rfl) rfl ?_
            refine pj_ild7 (q := 85) (pj_d p_X12_parted 46 rfl) rfl ?_
            refine pj_ild1 (q := 86) (pj_d p_X12_parted 47 rfl) rfl ?_
            refine pj_cp (pj_rV (q := 89) (c_X12_areAlike hM hT hW (d := d') ha hbt (by omega)) (pj_d p_X12_parted 48 rfl) rfl kX12_198 o_X12_areAlike (by assumption) (by rfl) (by rfl) (by rfl) (by rfl) (Nat.le_of_ble_eq_true rfl) (by decide)) (by decide) (by decide) ?_
            refine pj_if_eq (t := 108) (q := 92) (pj_d p_X12_parted 49 rfl) rfl (by decide) (fun c7 => ?_) (fun c7 => ?_)
            · refine pj_iconst (q := 109) (v := nI 0) (pj_d p_X12_parted 58 rfl) rfl (by decide) ?_
              exact put false (by rw [hpp, gd_pp, (gd_b_z _).mp c7]; rfl)
            refine pj_ald0 (q := 93) (pj_d p_X12_parted 50 rfl) rfl ?_
            refine pj_ild6 (q := 95) (pj_d p_X12_parted 51 rfl) rfl ?_
            refine pj_ild7 (q := 97) (pj_d p_X12_parted 52 rfl) rfl ?_
            refine pj_ild2 (q := 98) (pj_d p_X12_parted 53 rfl) rfl ?_
            refine pj_cp (pj_rV (q := 101) (c_X12_areAlike hM hT hW (d := e') ha hbt (by omega)) (pj_d p_X12_parted 54 rfl) rfl kX12_198 o_X12_areAlike (by assumption) (by rfl) (by rfl) (by rfl) (by rfl) (Nat.le_of_ble_eq_true rfl) (by decide)) (by decide) (by decide) ?_
            refine pj_if_ne (t := 108) (q := 104) (pj_d p_X12_parted 55 rfl) rfl (by decide) (fun c8 => ?_) (fun c8 => ?_)
            · refine pj_iconst (q := 109) (v := nI 0) (pj_d p_X12_parted 58 rfl) rfl (by decide) ?_
              exact put false (by rw [hpp, gd_pp, (gd_b_n _).mp c8]; simp)
            · refine pj_iconst (q := 105) (v := nI 1) (pj_d p_X12_parted 56 rfl) rfl (by decide) ?_
              refine pj_goto (t := 109) (pj_d p_X12_parted 57 rfl) (by decide) ?_
              exact put true (by rw [hpp, gd_pp, (gd_b_n _).mp c7, (gd_b_z _).mp c8]; rfl)
        obtain ⟨s1, s2⟩ := gd_ct_to (p := p) (i := 7 * a) (j := 7 * a + (a + 1)) (by omega) (fun c h1 h2 => by rw [← hp]; exact gd_pc_out (by omega))
        rw [← s1, ← s2]
        exact inner (τ 1 + 1) (a + 1) _ k8 (by omega) (by omega) (by omega)
    exact outer (τ 1 + 1) 0 none none rfl rfl (by omega) (by omega)
  · exact bad (by rw [(gd_b_z _).mp c4]; simp)
theorem c_X12_thief (hR : gd_MR h g v τ) (w : Int32) : pj_Ct E B l Y_X12_thief 4 0 0 [.ref g, .int w] h n (pj_is (some (.int (sp_thief τ w))) h n) := by
  obtain ⟨hM, hT, hv, hW, h1⟩ := hR
  have h7 := hW.1
  have h8 := hW.2.1
  refine pj_in rfl (ls := [some (.ref g), some (.int (w)), none, none, none, none, none]) rfl (Nat.le_of_ble_eq_true rfl) ?_
  refine gd_thr (pj_d p_X12_thief 0 rfl) (pj_d p_X12_thief 1 rfl) (pj_d p_X12_thief 2 rfl) rfl hM hv ?_
  refine pj_ald0 (q := 6) (pj_d p_X12_thief 3 rfl) rfl ?_
  refine pj_cp (pj_rV (q := 9) (c_X12_isThere hM hT h1) (pj_d p_X12_thief 4 rfl) rfl kX12_176 o_X12_isThere (by assumption) (by rfl) (by rfl) (by rfl) (by rfl) (Nat.le_of_ble_eq_true rfl) (by decide)) (by decide) (by decide) ?_
  refine pj_if_ne (t := 15) (q := 12) (pj_d p_X12_thief 5 rfl) rfl (by decide) (fun c1 => ?_) (fun c1 => ?_)
  rotate_left
  · have ht := gd_dec_f c1
    refine pj_ldc (q := 14) (pj_d p_X12_thief 6 rfl) rfl kX12_179 ?_
    refine pj_iret rfl (pj_d p_X12_thief 7 rfl) (by decide) (by decide) ?_
    exact ⟨by simp [sp_thief, ht], rfl, rfl⟩
  have ht := gd_dec_t c1
  refine pj_ild1 (q := 16) (pj_d p_X12_thief 8 rfl) rfl ?_
  refine pj_i2l (q := 17) (pj_d p_X12_thief 9 rfl) rfl ?_
  refine pj_lconst (q := 18) (v := lN 0) (pj_d p_X12_thief 10 rfl) rfl (by decide) ?_
  refine pj_lconst (q := 19) (v := lN 1) (pj_d p_X12_thief 11 rfl) rfl (by decide) ?_
  refine pj_cp (pj_rS (q := 22) (c_X12_in w (lN 0) (lN 1) 0 1 (by decide) (by decide)) (pj_d p_X12_thief 12 rfl) rfl kX12_57 o_X12_in (by rfl) (by rfl) (Nat.le_of_ble_eq_true rfl) (by decide)) (by decide) (by decide) ?_
  refine pj_if_ne (t := 28) (q := 25) (pj_d p_X12_thief 13 rfl) rfl (by decide) (fun c2 => ?_) (fun c2 => ?_)
  · have e3 := (gd_b_n _).mp c2
    obtain ⟨j, hj, rfl, hjc⟩ := gd_rng_of (hi := 1) e3
    have hji : (nI j).toInt = (j : Int) := nI_toInt (by omega)
    have hsp : sp_thief τ (nI j) = if j = 0 then gd_o1 (gd_tf τ 49) else gd_o2 (gd_tf τ 49) := by
      rw [sp_thief, if_pos ht, e3, hji]
      simp
    rw [hsp]
    refine pj_ldc (q := 30) (pj_d p_X12_thief 16 rfl) rfl kX12_90 ?_
    refine pj_ist2 (q := 31) (pj_d p_X12_thief 17 rfl) rfl (by first | rfl | assumption) ?_
    refine pj_ldc (q := 33) (pj_d p_X12_thief 18 rfl) rfl kX12_90 ?_
    refine pj_ist3 (q := 34) (pj_d p_X12_thief 19 rfl) rfl (by first | rfl | assumption) ?_
    refine pj_iconst (q := 35) (v := nI 0) (pj_d p_X12_thief 20 rfl) rfl (by decide) ?_
    refine pj_ist4 (q := 37) (pj_d p_X12_thief 21 rfl) rfl (by first | rfl | assumption) ?_
    have outer : ∀ m d o5 o6, pj_c1 o5 = true → pj_c1 o6 = true → 7 - d < m → d ≤ 7 → pj_V E B l Y_X12_thief 4 0 0 37 [some (.ref g), some (.int (nI j)), some (.int (gd_o1 (gd_tf τ (7 * d)))), some (.int (gd_o2 (gd_tf τ (7 * d)))), some (.int (nI d)), o5, o6] [] h n 0 0 (pj_is (some (.int (if j = 0 then gd_o1 (gd_tf τ 49) else gd_o2 (gd_tf τ 49)))) h n) := by
      intro m
      induction m with
      | zero => intro d o5 o6 _ _ hi; omega
      | succ m ih =>
        intro d o5 o6 k5 k6 hi hle
        refine pj_ild4 (q := 39) (pj_d p_X12_thief 22 rfl) rfl ?_
        refine pj_bipush (q := 41) (v := nI 7) (pj_d p_X12_thief 23 rfl) rfl (by decide) ?_
        refine pj_icmp_ge (t := 121) (q := 44) (pj_d p_X12_thief 24 rfl) rfl (by decide) (fun c5 => ?_) (fun c5 => ?_)
        · have he : d = 7 := by have := gd_ge c5 (by omega) (by omega); omega
          subst he
          refine pj_ild1 (q := 122) (pj_d p_X12_thief 65 rfl) rfl ?_
          refine pj_if_ne (t := 129) (q := 125) (pj_d p_X12_thief 66 rfl) rfl (by decide) (fun c6 => ?_) (fun c6 => ?_)
          · have hj0 : ¬ j = 0 := fun q => c6 (by rw [q]; rfl)
            refine pj_ild3 (q := 130) (pj_d p_X12_thief 69 rfl) rfl ?_
            refine pj_iret rfl (pj_d p_X12_thief 70 rfl) (by decide) (by decide) ?_
            exact ⟨by rw [if_neg hj0], rfl, rfl⟩
          · have hj0 : j = 0 := (nI_eq (by omega) (by omega)).mp (c6.trans nI_0.symm)
            refine pj_ild2 (q := 126) (pj_d p_X12_thief 67 rfl) rfl ?_
            refine pj_goto (t := 130) (pj_d p_X12_thief 68 rfl) (by decide) ?_
            refine pj_iret rfl (pj_d p_X12_thief 70 rfl) (by decide) (by decide) ?_
            exact ⟨by rw [if_pos hj0], rfl, rfl⟩
        have hd : d < 7 := gd_lt c5 (by omega)
        refine pj_iconst (q := 45) (v := nI 0) (pj_d p_X12_thief 25 rfl) rfl (by decide) ?_
        refine pj_ist5 (q := 47) (pj_d p_X12_thief 26 rfl) rfl (by first | rfl | assumption) ?_
        have inner : ∀ m2 t o6, pj_c1 o6 = true → τ 1 - t < m2 → t ≤ τ 1 → pj_V E B l Y_X12_thief 4 0 0 47 [some (.ref g), some (.int (nI j)), some (.int (gd_o1 (gd_tf τ (7 * d + t)))), some (.int (gd_o2 (gd_tf τ (7 * d + t)))), some (.int (nI d)), some (.int (nI t)), o6] [] h n 0 0 (pj_is (some (.int (if j = 0 then gd_o1 (gd_tf τ 49) else gd_o2 (gd_tf τ 49)))) h n) := by
          intro m2
          induction m2 with
          | zero => intro t o6 _ hb; omega
          | succ m2 ih2 =>
            intro t o6 k6 hb hble
            refine pj_ild5 (q := 49) (pj_d p_X12_thief 27 rfl) rfl ?_
            refine pj_ald0 (q := 50) (pj_d p_X12_thief 28 rfl) rfl ?_
            refine pj_gf (q := 53) (k := 5) (pj_d p_X12_thief 29 rfl) rfl kX12_19 (by assumption) (by rfl) (by rfl) ?_
            refine pj_iconst (q := 54) (v := nI 1) (pj_d p_X12_thief 30 rfl) rfl (by decide) ?_
            refine pj_ialdN (q := 55) (pj_d p_X12_thief 31 rfl) rfl (by assumption) (by rfl) (by first | assumption | omega) (Nat.le_of_ble_eq_true rfl) ?_
            refine pj_icmp_ge (t := 115) (q := 58) (pj_d p_X12_thief 32 rfl) rfl (by decide) (fun c6 => ?_) (fun c6 => ?_)
            · have he : t = (τ 1) := by have := gd_ge c6 (by omega) (by omega); omega
              subst he
              rw [← gd_tf_skip (τ := τ) (i := 7 * d + τ 1) (j := 7 * (d + 1)) (by omega) (fun c h1 h2 => by omega)]
              refine pj_iinc4 (q := 118) (v := 1) (pj_d p_X12_thief 63 rfl) rfl (by first | rfl | assumption) (by decide) ?_
              refine pj_goto (t := 37) (pj_d p_X12_thief 64 rfl) (by decide) ?_
              rw [nI_1]
              exact ih (d + 1) _ _ rfl k6 (by omega) (by omega)
            have ht' : t < τ 1 := gd_lt c6 (by omega)
            refine pj_ald0 (q := 59) (pj_d p_X12_thief 33 rfl) rfl ?_
            refine pj_ild5 (q := 61) (pj_d p_X12_thief 34 rfl) rfl ?_
            refine pj_ald0 (q := 62) (pj_d p_X12_thief 35 rfl) rfl ?_
            refine pj_ild4 (q := 64) (pj_d p_X12_thief 36 rfl) rfl ?_
            refine pj_cp (pj_rV (q := 67) (c_X12_missingOn hM hT hW (d := d) (by omega)) (pj_d p_X12_thief 37 rfl) rfl kX12_170 o_X12_missingOn (by assumption) (by rfl) (by rfl) (by rfl) (by rfl) (Nat.le_of_ble_eq_true rfl) (by decide)) (by decide) (by decide) ?_
            refine pj_cp (pj_rV (q := 70) (c_X12_likeBy hM hT hW ht' (gd_miss_lt hW d)) (pj_d p_X12_thief 38 rfl) rfl kX12_202 o_X12_likeBy (by assumption) (by rfl) (by rfl) (by rfl) (by rfl) (Nat.le_of_ble_eq_true rfl) (by decide)) (by decide) (by decide) ?_
            refine pj_cp (pj_rS (q := 73) (c_X12_bits _ (gd_like128 h7 _ _)) (pj_d p_X12_thief 39 rfl) rfl kX12_161 o_X12_bits (by rfl) (by rfl) (Nat.le_of_ble_eq_true rfl) (by decide)) (by decide) (by decide) ?_
            refine pj_iconst (q := 74) (v := nI 1) (pj_d p_X12_thief 40 rfl) rfl (by decide) ?_
            refine pj_isub (q := 75) (pj_d p_X12_thief 41 rfl) rfl ?_
            rw [gd_otI h7 ht']
            refine pj_ist6 (q := 77) (pj_d p_X12_thief 42 rfl) rfl (by first | rfl | assumption) ?_
            refine pj_ild6 (q := 79) (pj_d p_X12_thief 43 rfl) rfl ?_
            refine pj_ild3 (q := 80) (pj_d p_X12_thief 44 rfl) rfl ?_
            have e7 : (7 * d + t) % 7 = t := by omega
            have next : ∀ x y, x = gd_o1 (gd_tf τ (7 * d + t + 1)) → y = gd_o2 (gd_tf τ (7 * d + t + 1)) → pj_V E B l Y_X12_thief 4 0 0 109 [some (.ref g), some (.int (nI j)), some (.int (x)), some (.int (y)), some (.int (nI d)), some (.int (nI t)), some (.int (nI (gd_ot τ (7 * d + t))))] [] h n 0 0 (pj_is (some (.int (if j = 0 then gd_o1 (gd_tf τ 49) else gd_o2 (gd_tf τ 49)))) h n) := by
              intro x y hx hy
              subst hx
              subst hy
              refine pj_iinc5 (q := 112) (v := 1) (pj_d p_X12_thief 61 rfl) rfl (by first | rfl | assumption) (by decide) ?_
              refine pj_goto (t := 47) (pj_d p_X12_thief 62 rfl) (by decide) ?_
              rw [nI_1]
              exact ih2 (t + 1) _ rfl (by omega) (by omega)
            refine pj_icmp_le (t := 94) (q := 83) (pj_d p_X12_thief 45 rfl) rfl (by decide) (fun c7 => ?_) (fun c7 => ?_)
            · have hno := (gd_more _).mp c7
              have hst : gd_tf τ (7 * d + t + 1) = gd_tf τ (7 * d + t) := by rw [gd_tf, if_neg (fun q => hno q.2)]
              refine pj_ild2 (q := 95) (pj_d p_X12_thief 52 rfl) rfl ?_
              refine pj_ist2 (q := 96) (pj_d p_X12_thief 53 rfl) rfl (by first | rfl | assumption) ?_
              refine pj_ild6 (q := 98) (pj_d p_X12_thief 54 rfl) rfl ?_
              refine pj_ild3 (q := 99) (pj_d p_X12_thief 55 rfl) rfl ?_
              refine pj_icmp_le (t := 107) (q := 102) (pj_d p_X12_thief 56 rfl) rfl (by decide) (fun c8 => ?_) (fun c8 => ?_)
              · refine pj_ild3 (q := 108) (pj_d p_X12_thief 59 rfl) rfl ?_
                refine pj_ist3 (q := 109) (pj_d p_X12_thief 60 rfl) rfl (by first | rfl | assumption) ?_
                exact next _ _ (by rw [hst]) (by rw [hst])
              · exact absurd c7 c8
            · have hyes : ∀ q, gd_tf τ (7 * d + t) = some q → q.2 < gd_ot τ (7 * d + t) := Classical.byContradiction fun q => c7 ((gd_more _).mpr q)
              have hst : gd_tf τ (7 * d + t + 1) = some (7 * d + t, gd_ot τ (7 * d + t)) := by rw [gd_tf, if_pos ⟨by rw [e7]; exact ht', hyes⟩]
              refine pj_bipush (q := 85) (v := nI 7) (pj_d p_X12_thief 46 rfl) rfl (by decide) ?_
              refine pj_ild4 (q := 87) (pj_d p_X12_thief 47 rfl) rfl ?_
              refine pj_imul (q := 88) (pj_d p_X12_thief 48 rfl) rfl ?_
              refine pj_ild5 (q := 90) (pj_d p_X12_thief 49 rfl) rfl ?_
              refine pj_iadd (q := 91) (pj_d p_X12_thief 50 rfl) rfl ?_
              rw [pk_mul, nI_add]
              refine pj_goto (t := 95) (pj_d p_X12_thief 51 rfl) (by decide) ?_
              refine pj_ist2 (q := 96) (pj_d p_X12_thief 53 rfl) rfl (by first | rfl | assumption) ?_
              refine pj_ild6 (q := 98) (pj_d p_X12_thief 54 rfl) rfl ?_
              refine pj_ild3 (q := 99) (pj_d p_X12_thief 55 rfl) rfl ?_
              refine pj_icmp_le (t := 107) (q := 102) (pj_d p_X12_thief 56 rfl) rfl (by decide) (fun c8 => ?_) (fun c8 => ?_)
              · exact absurd c8 c7
              · refine pj_ild6 (q := 104) (pj_d p_X12_thief 57 rfl) rfl ?_
                refine pj_goto (t := 108) (pj_d p_X12_thief 58 rfl) (by decide) ?_
                refine pj_ist3 (q := 109) (pj_d p_X12_thief 60 rfl) rfl (by first | rfl | assumption) ?_
                exact next _ _ (by rw [hst]; rfl) (by rw [hst]; rfl)
        exact inner (τ 1 + 1) 0 _ k6 (by omega) (by omega)
    exact outer 8 0 none none rfl rfl (by omega) (by omega)
  · refine pj_ldc (q := 27) (pj_d p_X12_thief 14 rfl) rfl kX12_67 ?_
    refine pj_iret rfl (pj_d p_X12_thief 15 rfl) (by decide) (by decide) ?_
    exact ⟨by simp [sp_thief, ht, (gd_b_z _).mp c2], rfl, rfl⟩
end
