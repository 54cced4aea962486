/-! ===== tests, of the model and of the class ===== -/
def gd_al (p : Nat → Bool) : Nat → Bool
  | 0 => true
  | i + 1 => gd_al p i && p i
theorem gd_al_f {p : Nat → Bool} {i : Nat} (h : p i = false) : ∀ j, gd_al p (i + 1 + j) = false
  | 0 => by rw [Nat.add_zero, gd_al, h]; simp
  | j + 1 => by rw [← Nat.add_assoc, gd_al, gd_al_f h j]; rfl
def gd_un (τ : Nat → Nat) (st : Nat) (bl bs : Bool) (a b : Nat) : Bool := (bl && !decide (gd_lk τ a st = gd_lk τ b st)) || (bs && !decide (τ (13 + 3 * a) = τ (13 + 3 * b)))
def gd_tp (τ : Nat → Nat) (st : Nat) (bl bs : Bool) (a b : Nat) : Bool := decide (a = b) || gd_un τ st bl bs a b
def gd_tl (τ : Nat → Nat) (st : Nat) (bl bs : Bool) (a : Nat) : Bool := gd_al (gd_tp τ st bl bs a) (τ 1)
def gd_td (τ : Nat → Nat) (st : Nat) (bl bs : Bool) : Nat := gd_ct (gd_tl τ st bl bs) (τ 1)
def gd_tw (τ : Nat → Nat) (st w : Nat) : Nat := gd_td τ st (decide (w % 2 = 1)) (decide (2 ≤ w))
def gd_cs (lo sh w : Nat) : Nat := w % 2 * lo + w / 2 * sh
def gd_bt (τ : Nat → Nat) (st lo sh : Nat) : Nat → Option (Nat × Nat)
  | 0 => none
  | i + 1 => if (∀ q, gd_bt τ st lo sh i = some q → (q.1 < gd_tw τ st i ∨ (gd_tw τ st i = q.1 ∧ gd_cs lo sh i < q.2))) then some (gd_tw τ st i, gd_cs lo sh i) else gd_bt τ st lo sh i
def gd_q1 (z : Int32) (o : Option (Nat × Nat)) : Int32 := match o with
  | none => z
  | some q => nI q.1
def gd_q2 (o : Option (Nat × Nat)) : Int32 := match o with
  | none => nI 0
  | some q => nI q.2
theorem gd_tw_le {τ : Nat → Nat} (h7 : τ 1 ≤ 7) (st w : Nat) : gd_tw τ st w ≤ 7 := by
  have := gd_ct_le (p := gd_tl τ st (decide (w % 2 = 1)) (decide (2 ≤ w))) (τ 1)
  unfold gd_tw gd_td; omega
theorem gd_cs_le {lo sh w : Nat} (hl : lo ≤ 20) (hs : sh ≤ 20) (hw : w < 4) : gd_cs lo sh w ≤ 40 := by
  unfold gd_cs
  have h1 : w % 2 ≤ 1 := by omega
  have h2 : w / 2 ≤ 1 := by omega
  have h3 : w % 2 * lo ≤ 1 * 20 := Nat.mul_le_mul h1 hl
  have h4 : w / 2 * sh ≤ 1 * 20 := Nat.mul_le_mul h2 hs
  omega
theorem gd_bt_le {τ : Nat → Nat} (h7 : τ 1 ≤ 7) {st lo sh : Nat} (hl : lo ≤ 20) (hs : sh ≤ 20) : ∀ i q, i ≤ 4 → gd_bt τ st lo sh i = some q → q.1 ≤ 7 ∧ q.2 ≤ 40
  | 0, q, _, h => by cases h
  | i + 1, q, hi, h => by
    rw [gd_bt] at h
    split at h
    · cases h; exact ⟨gd_tw_le h7 st i, gd_cs_le hl hs (by omega)⟩
    · exact gd_bt_le h7 hl hs i q (by omega) h
theorem gd_bt_some {τ : Nat → Nat} {st lo sh : Nat} : ∀ i, ∃ q, gd_bt τ st lo sh (i + 1) = some q
  | 0 => ⟨_, by rw [gd_bt, if_pos (fun q hq => by cases hq)]⟩
  | i + 1 => by
    obtain ⟨q, hq⟩ := gd_bt_some (τ := τ) (st := st) (lo := lo) (sh := sh) i
    rw [gd_bt]
    split
    · exact ⟨_, rfl⟩
    · exact ⟨q, hq⟩
def sp_tests (τ : Nat → Nat) (d lo sh w : Int32) : Int32 := if τ 0 = 1 then (if gd_rng d 0 100 && gd_rng lo 0 20 && gd_rng sh 0 20 && gd_rng w 0 1 then (if w.toInt = 0 then gd_q1 (-1000000) (gd_bt τ (gd_miss τ d.toNatClampNeg) lo.toNatClampNeg sh.toNatClampNeg 4) else gd_q2 (gd_bt τ (gd_miss τ d.toNatClampNeg) lo.toNatClampNeg sh.toNatClampNeg 4)) else -1000001) else -1000002
theorem gd_w1 : ∀ w, w < 4 → nI w &&& nI 1 = nI (w % 2) := by decide +kernel
theorem gd_w2 : ∀ w, w < 4 → nI w >>> (nI 1 &&& 31) = nI (w / 2) := by decide +kernel
theorem gd_w3 : ∀ w, w < 4 → (nI w &&& nI 2 = 0 ↔ ¬ 2 ≤ w) := by decide +kernel
theorem gd_w4 : ∀ w, w < 4 → (nI w &&& nI 1 = 0 ↔ ¬ w % 2 = 1) := by decide +kernel
section
variable {E : pj_E} {B : Nat} {l : Launch} {h : pj_H} {n g : Nat} {τ : Nat → Nat} {v : Nat → Int32}
theorem c_X12_toldBy (hM : h g = some (.inr (11, gd_Mo g v))) (hT : h (g + 4) = some (.inl (0, 56, .inl (fun j => nI (τ j))))) (hW : gd_W τ) {w d : Nat} (hw : w < 4) (hd : d ≤ 100) : pj_Ct E B l Y_X12_toldBy 4 0 0 [.ref g, .int (nI w), .int (nI d)] h n (pj_is (some (.int (nI (gd_tw τ (gd_miss τ d) w)))) h n) := by
  have h7 := hW.1
  have hbl : ∀ x, x = decide (w % 2 = 1) → True := fun _ _ => trivial
  generalize hbl : decide (w % 2 = 1) = bl
  generalize hbs : decide (2 ≤ w) = bs
  have htw : gd_tw τ (gd_miss τ d) w = gd_ct (gd_tl τ (gd_miss τ d) bl bs) (τ 1) := by rw [gd_tw, gd_td, hbl, hbs]
  rw [htw]
  generalize hp : gd_tl τ (gd_miss τ d) bl bs = p
  refine pj_in rfl (ls := [some (.ref g), some (.int (nI w)), some (.int (nI d)), none, none, none, none, none]) rfl (Nat.le_of_ble_eq_true rfl) ?_
  refine pj_iconst (q := 1) (v := nI 0) (pj_d p_X12_toldBy 0 rfl) rfl (by decide) ?_
  refine pj_ist3 (q := 2) (pj_d p_X12_toldBy 1 rfl) rfl (by first | rfl | assumption) ?_
  refine pj_iconst (q := 3) (v := nI 0) (pj_d p_X12_toldBy 2 rfl) rfl (by decide) ?_
  refine pj_ist4 (q := 5) (pj_d p_X12_toldBy 3 rfl) rfl (by first | rfl | assumption) ?_
  have outer : ∀ m a o5 o6 o7, pj_c1 o5 = true → pj_c1 o6 = true → pj_c1 o7 = true → τ 1 - a < m → a ≤ τ 1 → pj_V E B l Y_X12_toldBy 4 0 0 5 [some (.ref g), some (.int (nI w)), some (.int (nI d)), some (.int (nI (gd_ct p a))), some (.int (nI a)), o5, o6, o7] [] h n 0 0 (pj_is (some (.int (nI (gd_ct p (τ 1))))) h n) := by
    intro m
    induction m with
    | zero => intro a o5 o6 o7 _ _ _ hi; omega
    | succ m ih =>
      intro a o5 o6 o7 k5 k6 k7 hi hle
      refine pj_ild4 (q := 7) (pj_d p_X12_toldBy 4 rfl) rfl ?_
      refine pj_ald0 (q := 8) (pj_d p_X12_toldBy 5 rfl) rfl ?_
      refine pj_gf (q := 11) (k := 5) (pj_d p_X12_toldBy 6 rfl) rfl kX12_19 (by assumption) (by rfl) (by rfl) ?_
      refine pj_iconst (q := 12) (v := nI 1) (pj_d p_X12_toldBy 7 rfl) rfl (by decide) ?_
      refine pj_ialdN (q := 13) (pj_d p_X12_toldBy 8 rfl) rfl (by assumption) (by rfl) (by first | assumption | omega) (Nat.le_of_ble_eq_true rfl) ?_
      refine pj_icmp_ge (t := 130) (q := 16) (pj_d p_X12_toldBy 9 rfl) rfl (by decide) (fun c1 => ?_) (fun c1 => ?_)
      · have he : a = (τ 1) := by have := gd_ge c1 (by omega) (by omega); omega
        subst he
        refine pj_ild3 (q := 131) (pj_d p_X12_toldBy 70 rfl) rfl ?_
        refine pj_iret rfl (pj_d p_X12_toldBy 71 rfl) (by decide) (by decide) ?_
        exact ⟨rfl, rfl, rfl⟩
      have ha : a < τ 1 := gd_lt c1 (by omega)
      obtain ⟨-, -, sa⟩ := hW.2.2.2.2.1 a ha
      refine pj_iconst (q := 17) (v := nI 1) (pj_d p_X12_toldBy 10 rfl) rfl (by decide) ?_
      refine pj_ist5 (q := 19) (pj_d p_X12_toldBy 11 rfl) rfl (by first | rfl | assumption) ?_
      refine pj_iconst (q := 20) (v := nI 0) (pj_d p_X12_toldBy 12 rfl) rfl (by decide) ?_
      refine pj_ist6 (q := 22) (pj_d p_X12_toldBy 13 rfl) rfl (by first | rfl | assumption) ?_
      generalize hr : gd_tp τ (gd_miss τ d) bl bs a = r
      have hpa : p a = gd_al r (τ 1) := by rw [← hp, ← hr]; rfl
      have inner : ∀ m2 b o7, pj_c1 o7 = true → τ 1 - b < m2 → b ≤ τ 1 → pj_V E B l Y_X12_toldBy 4 0 0 22 [some (.ref g), some (.int (nI w)), some (.int (nI d)), some (.int (nI (gd_ct p a))), some (.int (nI a)), some (.int (gd_b (gd_al r b))), some (.int (nI b)), o7] [] h n 0 0 (pj_is (some (.int (nI (gd_ct p (τ 1))))) h n) := by
        intro m2
        induction m2 with
        | zero => intro b o7 _ hb; omega
        | succ m2 ih2 =>
          intro b o7 k7 hb hble
          refine pj_ild6 (q := 24) (pj_d p_X12_toldBy 14 rfl) rfl ?_
          refine pj_ald0 (q := 25) (pj_d p_X12_toldBy 15 rfl) rfl ?_
          refine pj_gf (q := 28) (k := 5) (pj_d p_X12_toldBy 16 rfl) rfl kX12_19 (by assumption) (by rfl) (by rfl) ?_
          refine pj_iconst (q := 29) (v := nI 1) (pj_d p_X12_toldBy 17 rfl) rfl (by decide) ?_
          refine pj_ialdN (q := 30) (pj_d p_X12_toldBy 18 rfl) rfl (by assumption) (by rfl) (by first | assumption | omega) (Nat.le_of_ble_eq_true rfl) ?_
          refine pj_icmp_ge (t := 111) (q := 33) (pj_d p_X12_toldBy 19 rfl) rfl (by decide) (fun c2 => ?_) (fun c2 => ?_)
          · have he : b = (τ 1) := by have := gd_ge c2 (by omega) (by omega); omega
            subst he
            refine pj_ild3 (q := 112) (pj_d p_X12_toldBy 60 rfl) rfl ?_
            refine pj_ild5 (q := 114) (pj_d p_X12_toldBy 61 rfl) rfl ?_
            have fin : ∀ z, gd_ct p a + z = gd_ct p (a + 1) → pj_V E B l Y_X12_toldBy 4 0 0 122 [some (.ref g), some (.int (nI w)), some (.int (nI d)), some (.int (nI (gd_ct p a))), some (.int (nI a)), some (.int (gd_b (gd_al r (τ 1)))), some (.int (nI (τ 1))), o7] [.int (nI z), .int (nI (gd_ct p a))] h n 0 0 (pj_is (some (.int (nI (gd_ct p (τ 1))))) h n) := by
              intro z hz
              refine pj_iadd (q := 123) (pj_d p_X12_toldBy 66 rfl) rfl ?_
              rw [nI_add, hz]
              refine pj_ist3 (q := 124) (pj_d p_X12_toldBy 67 rfl) rfl (by first | rfl | assumption) ?_
              refine pj_iinc4 (q := 127) (v := 1) (pj_d p_X12_toldBy 68 rfl) rfl (by first | rfl | assumption) (by decide) ?_
              refine pj_goto (t := 5) (pj_d p_X12_toldBy 69 rfl) (by decide) ?_
              rw [nI_1]
              exact ih (a + 1) _ _ _ rfl rfl k7 (by omega) (by omega)
            refine pj_if_eq (t := 121) (q := 117) (pj_d p_X12_toldBy 62 rfl) rfl (by decide) (fun c3 => ?_) (fun c3 => ?_)
            · refine pj_iconst (q := 122) (v := nI 0) (pj_d p_X12_toldBy 65 rfl) rfl (by decide) ?_
              exact fin 0 (by rw [gd_ct, hpa, (gd_b_z _).mp c3]; rfl)
            · refine pj_iconst (q := 118) (v := nI 1) (pj_d p_X12_toldBy 63 rfl) rfl (by decide) ?_
              refine pj_goto (t := 122) (pj_d p_X12_toldBy 64 rfl) (by decide) ?_
              exact fin 1 (by rw [gd_ct, hpa, (gd_b_n _).mp c3]; rfl)
          have hbt : b < τ 1 := gd_lt c2 (by omega)
          obtain ⟨-, -, sb⟩ := hW.2.2.2.2.1 b hbt
          have hrb : r b = (decide (a = b) || gd_un τ (gd_miss τ d) bl bs a b) := by rw [← hr]; rfl
          have put : ∀ u : Bool, gd_un τ (gd_miss τ d) bl bs a b = u → pj_V E B l Y_X12_toldBy 4 0 0 79 [some (.ref g), some (.int (nI w)), some (.int (nI d)), some (.int (nI (gd_ct p a))), some (.int (nI a)), some (.int (gd_b (gd_al r b))), some (.int (nI b)), o7] [.int (gd_b u)] h n 0 0 (pj_is (some (.int (nI (gd_ct p (τ 1))))) h n) := by
            intro u hu
            refine pj_ist7 (q := 81) (pj_d p_X12_toldBy 46 rfl) rfl (by first | rfl | assumption) ?_
            refine pj_ild5 (q := 83) (pj_d p_X12_toldBy 47 rfl) rfl ?_
            have fin : ∀ z : Bool, z = gd_al r (b + 1) → pj_V E B l Y_X12_toldBy 4 0 0 103 [some (.ref g), some (.int (nI w)), some (.int (nI d)), some (.int (nI (gd_ct p a))), some (.int (nI a)), some (.int (gd_b (gd_al r b))), some (.int (nI b)), some (.int (gd_b u))] [.int (gd_b z)] h n 0 0 (pj_is (some (.int (nI (gd_ct p (τ 1))))) h n) := by
              intro z hz
              subst hz
              refine pj_ist5 (q := 105) (pj_d p_X12_toldBy 57 rfl) rfl (by first | rfl | assumption) ?_
              refine pj_iinc6 (q := 108) (v := 1) (pj_d p_X12_toldBy 58 rfl) rfl (by first | rfl | assumption) (by decide) ?_
              refine pj_goto (t := 22) (pj_d p_X12_toldBy 59 rfl) (by decide) ?_
              rw [nI_1]
              exact ih2 (b + 1) _ rfl (by omega) (by omega)
            refine pj_if_eq (t := 102) (q := 86) (pj_d p_X12_toldBy 48 rfl) rfl (by decide) (fun c3 => ?_) (fun c3 => ?_)
            · refine pj_iconst (q := 103) (v := nI 0) (pj_d p_X12_toldBy 56 rfl) rfl (by decide) ?_
              exact fin false (by rw [gd_al, (gd_b_z _).mp c3]; rfl)
            refine pj_ild4 (q := 88) (pj_d p_X12_toldBy 49 rfl) rfl ?_
            refine pj_ild6 (q := 90) (pj_d p_X12_toldBy 50 rfl) rfl ?_
            refine pj_icmp_eq (t := 98) (q := 93) (pj_d p_X12_toldBy 51 rfl) rfl (by decide) (fun c4 => ?_) (fun c4 => ?_)
            · have hab : a = b := (nI_eq (by omega) (by omega)).mp c4
              refine pj_iconst (q := 99) (v := nI 1) (pj_d p_X12_toldBy 54 rfl) rfl (by decide) ?_
              refine pj_goto (t := 103) (pj_d p_X12_toldBy 55 rfl) (by decide) ?_
              exact fin true (by rw [gd_al, (gd_b_n _).mp c3, hrb, decide_eq_true hab]; rfl)
            have hab : ¬ a = b := fun q => c4 (by rw [q])
            refine pj_ild7 (q := 95) (pj_d p_X12_toldBy 52 rfl) rfl ?_
            refine pj_if_eq (t := 102) (q := 98) (pj_d p_X12_toldBy 53 rfl) rfl (by decide) (fun c5 => ?_) (fun c5 => ?_)
            · refine pj_iconst (q := 103) (v := nI 0) (pj_d p_X12_toldBy 56 rfl) rfl (by decide) ?_
              exact fin false (by rw [gd_al, hrb, decide_eq_false hab, hu, (gd_b_z _).mp c5]; simp)
            · refine pj_iconst (q := 99) (v := nI 1) (pj_d p_X12_toldBy 54 rfl) rfl (by decide) ?_
              refine pj_goto (t := 103) (pj_d p_X12_toldBy 55 rfl) (by decide) ?_
              exact fin true (by rw [gd_al, (gd_b_n _).mp c3, hrb, hu, (gd_b_n _).mp c5]; simp)
          have shp : (bl && !decide (gd_lk τ a (gd_miss τ d) = gd_lk τ b (gd_miss τ d))) = false → pj_V E B l Y_X12_toldBy 4 0 0 52 [some (.ref g), some (.int (nI w)), some (.int (nI d)), some (.int (nI (gd_ct p a))), some (.int (nI a)), some (.int (gd_b (gd_al r b))), some (.int (nI b)), o7] [] h n 0 0 (pj_is (some (.int (nI (gd_ct p (τ 1))))) h n) := by
            intro hn
            refine pj_ild1 (q := 53) (pj_d p_X12_toldBy 31 rfl) rfl ?_
            refine pj_iconst (q := 54) (v := nI 1) (pj_d p_X12_toldBy 32 rfl) rfl (by decide) ?_
            refine pj_icmp_le (t := 78) (q := 57) (pj_d p_X12_toldBy 33 rfl) rfl (by decide) (fun c5 => ?_) (fun c5 => ?_)
            · have : bs = false := by rw [← hbs]; exact decide_eq_false (by have := (nI_leI (by omega) (by omega)).mp c5; omega)
              refine pj_iconst (q := 79) (v := nI 0) (pj_d p_X12_toldBy 45 rfl) rfl (by decide) ?_
              exact put false (by rw [gd_un, hn, this]; rfl)
            have hb2 : bs = true := by
              rw [← hbs]
              exact decide_eq_true (by
                rcases Nat.lt_or_ge w 2 with q | q
                · exact absurd (nI_le (show w ≤ 1 by omega) (by omega)) c5
                · exact q)
            refine pj_ald0 (q := 58) (pj_d p_X12_toldBy 34 rfl) rfl ?_
            refine pj_ild4 (q := 60) (pj_d p_X12_toldBy 35 rfl) rfl ?_
            refine pj_iconst (q := 61) (v := nI 2) (pj_d p_X12_toldBy 36 rfl) rfl (by decide) ?_
            refine pj_cp (pj_rV (q := 64) (c_X12_of hM hT (t := a) (w := 2) (by omega) (by omega)) (pj_d p_X12_toldBy 37 rfl) rfl kX12_158 o_X12_of (by assumption) (by rfl) (by rfl) (by rfl) (by rfl) (Nat.le_of_ble_eq_true rfl) (by decide)) (by decide) (by decide) ?_
            refine pj_ald0 (q := 65) (pj_d p_X12_toldBy 38 rfl) rfl ?_
            refine pj_ild6 (q := 67) (pj_d p_X12_toldBy 39 rfl) rfl ?_
            refine pj_iconst (q := 68) (v := nI 2) (pj_d p_X12_toldBy 40 rfl) rfl (by decide) ?_
            refine pj_cp (pj_rV (q := 71) (c_X12_of hM hT (t := b) (w := 2) (by omega) (by omega)) (pj_d p_X12_toldBy 41 rfl) rfl kX12_158 o_X12_of (by assumption) (by rfl) (by rfl) (by rfl) (by rfl) (Nat.le_of_ble_eq_true rfl) (by decide)) (by decide) (by decide) ?_
            rw [show 11 + 3 * a + 2 = 13 + 3 * a by omega, show 11 + 3 * b + 2 = 13 + 3 * b by omega]
            refine pj_icmp_eq (t := 78) (q := 74) (pj_d p_X12_toldBy 42 rfl) rfl (by decide) (fun c6 => ?_) (fun c6 => ?_)
            · refine pj_iconst (q := 79) (v := nI 0) (pj_d p_X12_toldBy 45 rfl) rfl (by decide) ?_
              exact put false (by rw [gd_un, hn, decide_eq_true ((nI_eq (by omega) (by omega)).mp c6)]; simp)
            · have hne : ¬ τ (13 + 3 * a) = τ (13 + 3 * b) := fun q => c6 (by rw [q])
              refine pj_iconst (q := 75) (v := nI 1) (pj_d p_X12_toldBy 43 rfl) rfl (by decide) ?_
              refine pj_goto (t := 79) (pj_d p_X12_toldBy 44 rfl) (by decide) ?_
              exact put true (by rw [gd_un, hb2, decide_eq_false hne]; simp)
          refine pj_ild1 (q := 34) (pj_d p_X12_toldBy 20 rfl) rfl ?_
          refine pj_iconst (q := 35) (v := nI 1) (pj_d p_X12_toldBy 21 rfl) rfl (by decide) ?_
          refine pj_iand (q := 36) (pj_d p_X12_toldBy 22 rfl) rfl ?_
          rw [gd_w1 w hw]
          refine pj_iconst (q := 37) (v := nI 1) (pj_d p_X12_toldBy 23 rfl) rfl (by decide) ?_
          refine pj_icmp_ne (t := 52) (q := 40) (pj_d p_X12_toldBy 24 rfl) rfl (by decide) (fun c3 => ?_) (fun c3 => ?_)
          · have : bl = false := by rw [← hbl]; exact decide_eq_false (fun q => c3 (by rw [q]))
            exact shp (by rw [this]; rfl)
          have hb1 : bl = true := by rw [← hbl]; exact decide_eq_true ((nI_eq (by omega) (by omega)).mp c3)
          refine pj_ald0 (q := 41) (pj_d p_X12_toldBy 25 rfl) rfl ?_
          refine pj_ild4 (q := 43) (pj_d p_X12_toldBy 26 rfl) rfl ?_
          refine pj_ild6 (q := 45) (pj_d p_X12_toldBy 27 rfl) rfl ?_
          refine pj_ild2 (q := 46) (pj_d p_X12_toldBy 28 rfl) rfl ?_
          refine pj_cp (pj_rV (q := 49) (c_X12_areAlike hM hT hW (d := d) ha hbt (by omega)) (pj_d p_X12_toldBy 29 rfl) rfl kX12_198 o_X12_areAlike (by assumption) (by rfl) (by rfl) (by rfl) (by rfl) (Nat.le_of_ble_eq_true rfl) (by decide)) (by decide) (by decide) ?_
          refine pj_if_eq (t := 74) (q := 52) (pj_d p_X12_toldBy 30 rfl) rfl (by decide) (fun c4 => ?_) (fun c4 => ?_)
          · have hne := gd_dec_f c4
            refine pj_iconst (q := 75) (v := nI 1) (pj_d p_X12_toldBy 43 rfl) rfl (by decide) ?_
            refine pj_goto (t := 79) (pj_d p_X12_toldBy 44 rfl) (by decide) ?_
            exact put true (by rw [gd_un, hb1, decide_eq_false hne]; rfl)
          · exact shp (by rw [decide_eq_true (gd_dec_t c4)]; simp)
      exact inner (τ 1 + 1) 0 _ k7 (by omega) (by omega)
  exact outer (τ 1 + 1) 0 none none none rfl rfl rfl (by omega) (by omega)
theorem c_X12_tests (hR : gd_MR h g v τ) (d lo sh w : Int32) : pj_Ct E B l Y_X12_tests 5 0 0 [.ref g, .int d, .int lo, .int sh, .int w] h n (pj_is (some (.int (sp_tests τ d lo sh w))) h n) := by
  obtain ⟨hM, hT, hv, hW, h1⟩ := hR
  have h7 := hW.1
  have h8 := hW.2.1
  refine pj_in rfl (ls := [some (.ref g), some (.int (d)), some (.int (lo)), some (.int (sh)), some (.int (w)), none, none, none, none, none, none]) rfl (Nat.le_of_ble_eq_true rfl) ?_
  refine gd_thr (pj_d p_X12_tests 0 rfl) (pj_d p_X12_tests 1 rfl) (pj_d p_X12_tests 2 rfl) rfl hM hv ?_
  refine pj_ald0 (q := 6) (pj_d p_X12_tests 3 rfl) rfl ?_
  refine pj_cp (pj_rV (q := 9) (c_X12_isThere hM hT h1) (pj_d p_X12_tests 4 rfl) rfl kX12_176 o_X12_isThere (by assumption) (by rfl) (by rfl) (by rfl) (by rfl) (Nat.le_of_ble_eq_true rfl) (by decide)) (by decide) (by decide) ?_
  refine pj_if_ne (t := 15) (q := 12) (pj_d p_X12_tests 5 rfl) rfl (by decide) (fun c1 => ?_) (fun c1 => ?_)
  rotate_left
  · have ht := gd_dec_f c1
    refine pj_ldc (q := 14) (pj_d p_X12_tests 6 rfl) rfl kX12_179 ?_
    refine pj_iret rfl (pj_d p_X12_tests 7 rfl) (by decide) (by decide) ?_
    exact ⟨by simp [sp_tests, ht], rfl, rfl⟩
  have ht := gd_dec_t c1
  have bad : (gd_rng d 0 100 && gd_rng lo 0 20 && gd_rng sh 0 20 && gd_rng w 0 1) = false → pj_V E B l Y_X12_tests 5 0 0 57 [some (.ref g), some (.int (d)), some (.int (lo)), some (.int (sh)), some (.int (w)), none, none, none, none, none, none] [] h n 0 0 (pj_is (some (.int (sp_tests τ d lo sh w))) h n) := by
    intro hx
    refine pj_ldc (q := 59) (pj_d p_X12_tests 29 rfl) rfl kX12_67 ?_
    refine pj_iret rfl (pj_d p_X12_tests 30 rfl) (by decide) (by decide) ?_
    exact ⟨by rw [sp_tests, if_pos ht, hx]; rfl, rfl, rfl⟩
  refine pj_ild1 (q := 16) (pj_d p_X12_tests 8 rfl) rfl ?_
  refine pj_cp (pj_rS (q := 19) (c_X12_isFar d) (pj_d p_X12_tests 9 rfl) rfl kX12_195 o_X12_isFar (by rfl) (by rfl) (Nat.le_of_ble_eq_true rfl) (by decide)) (by decide) (by decide) ?_
  refine pj_if_eq (t := 57) (q := 22) (pj_d p_X12_tests 10 rfl) rfl (by decide) (fun c2 => ?_) (fun c2 => ?_)
  · exact bad (by rw [(gd_b_z _).mp c2]; rfl)
  refine pj_ild2 (q := 23) (pj_d p_X12_tests 11 rfl) rfl ?_
  refine pj_i2l (q := 24) (pj_d p_X12_tests 12 rfl) rfl ?_
  refine pj_lconst (q := 25) (v := lN 0) (pj_d p_X12_tests 13 rfl) rfl (by decide) ?_
  refine pj_ldc2 (q := 28) (pj_d p_X12_tests 14 rfl) rfl kX12_220 ?_
  refine pj_cp (pj_rS (q := 31) (c_X12_in lo (lN 0) 20 0 20 (by decide) (by decide)) (pj_d p_X12_tests 15 rfl) rfl kX12_57 o_X12_in (by rfl) (by rfl) (Nat.le_of_ble_eq_true rfl) (by decide)) (by decide) (by decide) ?_
  refine pj_if_eq (t := 57) (q := 34) (pj_d p_X12_tests 16 rfl) rfl (by decide) (fun c3 => ?_) (fun c3 => ?_)
  · exact bad (by rw [(gd_b_z _).mp c3]; simp)
  refine pj_ild3 (q := 35) (pj_d p_X12_tests 17 rfl) rfl ?_
  refine pj_i2l (q := 36) (pj_d p_X12_tests 18 rfl) rfl ?_
  refine pj_lconst (q := 37) (v := lN 0) (pj_d p_X12_tests 19 rfl) rfl (by decide) ?_
  refine pj_ldc2 (q := 40) (pj_d p_X12_tests 20 rfl) rfl kX12_220 ?_
  refine pj_cp (pj_rS (q := 43) (c_X12_in sh (lN 0) 20 0 20 (by decide) (by decide)) (pj_d p_X12_tests 21 rfl) rfl kX12_57 o_X12_in (by rfl) (by rfl) (Nat.le_of_ble_eq_true rfl) (by decide)) (by decide) (by decide) ?_
  refine pj_if_eq (t := 57) (q := 46) (pj_d p_X12_tests 22 rfl) rfl (by decide) (fun c4 => ?_) (fun c4 => ?_)
  · exact bad (by rw [(gd_b_z _).mp c4]; simp)
  refine pj_ild4 (q := 48) (pj_d p_X12_tests 23 rfl) rfl ?_
  refine pj_i2l (q := 49) (pj_d p_X12_tests 24 rfl) rfl ?_
  refine pj_lconst (q := 50) (v := lN 0) (pj_d p_X12_tests 25 rfl) rfl (by decide) ?_
  refine pj_lconst (q := 51) (v := lN 1) (pj_d p_X12_tests 26 rfl) rfl (by decide) ?_
  refine pj_cp (pj_rS (q := 54) (c_X12_in w (lN 0) (lN 1) 0 1 (by decide) (by decide)) (pj_d p_X12_tests 27 rfl) rfl kX12_57 o_X12_in (by rfl) (by rfl) (Nat.le_of_ble_eq_true rfl) (by decide)) (by decide) (by decide) ?_
  refine pj_if_ne (t := 60) (q := 57) (pj_d p_X12_tests 28 rfl) rfl (by decide) (fun c5 => ?_) (fun c5 => ?_)
  · have e1 := (gd_b_n _).mp c2
    have e2 := (gd_b_n _).mp c3
    have e3 := (gd_b_n _).mp c4
    have e4 := (gd_b_n _).mp c5
    obtain ⟨d', hd, rfl, hdc⟩ := gd_rng_of (hi := 100) e1
    obtain ⟨lo', hl, rfl, hlc⟩ := gd_rng_of (hi := 20) e2
    obtain ⟨sh', hs, rfl, hsc⟩ := gd_rng_of (hi := 20) e3
    obtain ⟨j, hj, rfl, hjc⟩ := gd_rng_of (hi := 1) e4
    have hji : (nI j).toInt = (j : Int) := nI_toInt (by omega)
    have hsp : sp_tests τ (nI d') (nI lo') (nI sh') (nI j) = if j = 0 then gd_q1 (-1000000) (gd_bt τ (gd_miss τ d') lo' sh' 4) else gd_q2 (gd_bt τ (gd_miss τ d') lo' sh' 4) := by
      rw [sp_tests, if_pos ht, e1, e2, e3, e4, hdc, hlc, hsc, hji]
      simp
    rw [hsp]
    generalize hp : gd_bt τ (gd_miss τ d') lo' sh' = p
    refine pj_ldc (q := 62) (pj_d p_X12_tests 31 rfl) rfl kX12_90 ?_
    refine pj_ist5 (q := 64) (pj_d p_X12_tests 32 rfl) rfl (by first | rfl | assumption) ?_
    refine pj_iconst (q := 65) (v := nI 0) (pj_d p_X12_tests 33 rfl) rfl (by decide) ?_
    refine pj_ist6 (q := 67) (pj_d p_X12_tests 34 rfl) rfl (by first | rfl | assumption) ?_
    refine pj_iconst (q := 68) (v := nI 0) (pj_d p_X12_tests 35 rfl) rfl (by decide) ?_
    refine pj_ist7 (q := 70) (pj_d p_X12_tests 36 rfl) rfl (by first | rfl | assumption) ?_
    have loop : ∀ m i o8 o9 o10, pj_c1 o8 = true → pj_c1 o9 = true → pj_c1 o10 = true → 4 - i < m → i ≤ 4 → pj_V E B l Y_X12_tests 5 0 0 70 [some (.ref g), some (.int (nI d')), some (.int (nI lo')), some (.int (nI sh')), some (.int (nI j)), some (.int (gd_q1 (-1000000) (p i))), some (.int (gd_q2 (p i))), some (.int (nI i)), o8, o9, o10] [] h n 0 0 (pj_is (some (.int (if j = 0 then gd_q1 (-1000000) (p 4) else gd_q2 (p 4)))) h n) := by
      intro m
      induction m with
      | zero => intro i o8 o9 o10 _ _ _ hi; omega
      | succ m ih =>
        intro i o8 o9 o10 k8 k9 k10 hi hle
        refine pj_ild7 (q := 72) (pj_d p_X12_tests 37 rfl) rfl ?_
        refine pj_iconst (q := 73) (v := nI 4) (pj_d p_X12_tests 38 rfl) rfl (by decide) ?_
        refine pj_icmp_ge (t := 162) (q := 76) (pj_d p_X12_tests 39 rfl) rfl (by decide) (fun c6 => ?_) (fun c6 => ?_)
        · have he : i = 4 := by have := gd_ge c6 (by omega) (by omega); omega
          subst he
          refine pj_ild4 (q := 164) (pj_d p_X12_tests 84 rfl) rfl ?_
          refine pj_if_ne (t := 172) (q := 167) (pj_d p_X12_tests 85 rfl) rfl (by decide) (fun c7 => ?_) (fun c7 => ?_)
          · have hj0 : ¬ j = 0 := fun q => c7 (by rw [q]; rfl)
            refine pj_ild6 (q := 174) (pj_d p_X12_tests 88 rfl) rfl ?_
            refine pj_iret rfl (pj_d p_X12_tests 89 rfl) (by decide) (by decide) ?_
            exact ⟨by rw [if_neg hj0], rfl, rfl⟩
          · have hj0 : j = 0 := (nI_eq (by omega) (by omega)).mp (c7.trans nI_0.symm)
            refine pj_ild5 (q := 169) (pj_d p_X12_tests 86 rfl) rfl ?_
            refine pj_goto (t := 174) (pj_d p_X12_tests 87 rfl) (by decide) ?_
            refine pj_iret rfl (pj_d p_X12_tests 89 rfl) (by decide) (by decide) ?_
            exact ⟨by rw [if_pos hj0], rfl, rfl⟩
        have hlt : i < 4 := gd_lt c6 (by omega)
        refine pj_ald0 (q := 77) (pj_d p_X12_tests 40 rfl) rfl ?_
        refine pj_ild7 (q := 79) (pj_d p_X12_tests 41 rfl) rfl ?_
        refine pj_ild1 (q := 80) (pj_d p_X12_tests 42 rfl) rfl ?_
        refine pj_cp (pj_rV (q := 83) (c_X12_toldBy hM hT hW (w := i) (d := d') hlt hd) (pj_d p_X12_tests 43 rfl) rfl kX12_222 o_X12_toldBy (by assumption) (by rfl) (by rfl) (by rfl) (by rfl) (Nat.le_of_ble_eq_true rfl) (by decide)) (by decide) (by decide) ?_
        refine pj_ist8 (q := 85) (pj_d p_X12_tests 44 rfl) rfl (by first | rfl | assumption) ?_
        refine pj_ild7 (q := 87) (pj_d p_X12_tests 45 rfl) rfl ?_
        refine pj_iconst (q := 88) (v := nI 1) (pj_d p_X12_tests 46 rfl) rfl (by decide) ?_
        refine pj_iand (q := 89) (pj_d p_X12_tests 47 rfl) rfl ?_
        rw [gd_w1 i hlt]
        refine pj_ild2 (q := 90) (pj_d p_X12_tests 48 rfl) rfl ?_
        refine pj_imul (q := 91) (pj_d p_X12_tests 49 rfl) rfl ?_
        refine pj_ild7 (q := 93) (pj_d p_X12_tests 50 rfl) rfl ?_
        refine pj_iconst (q := 94) (v := nI 1) (pj_d p_X12_tests 51 rfl) rfl (by decide) ?_
        refine pj_ishr (q := 95) (pj_d p_X12_tests 52 rfl) rfl ?_
        rw [gd_w2 i hlt]
        refine pj_ild3 (q := 96) (pj_d p_X12_tests 53 rfl) rfl ?_
        refine pj_imul (q := 97) (pj_d p_X12_tests 54 rfl) rfl ?_
        refine pj_iadd (q := 98) (pj_d p_X12_tests 55 rfl) rfl ?_
        rw [pk_mul, pk_mul, nI_add]
        rw [show i % 2 * lo' + i / 2 * sh' = gd_cs lo' sh' i from rfl]
        have b1 := gd_tw_le h7 (gd_miss τ d') i
        have b2 := gd_cs_le hl hs hlt
        refine pj_ist9 (q := 100) (pj_d p_X12_tests 56 rfl) rfl (by first | rfl | assumption) ?_
        refine pj_ild8 (q := 102) (pj_d p_X12_tests 57 rfl) rfl ?_
        refine pj_ild5 (q := 104) (pj_d p_X12_tests 58 rfl) rfl ?_
        have put : ∀ u : Bool, (u = true ↔ (∀ q, p i = some q → (q.1 < gd_tw τ (gd_miss τ d') i ∨ (gd_tw τ (gd_miss τ d') i = q.1 ∧ gd_cs lo' sh' i < q.2)))) → pj_V E B l Y_X12_tests 5 0 0 126 [some (.ref g), some (.int (nI d')), some (.int (nI lo')), some (.int (nI sh')), some (.int (nI j)), some (.int (gd_q1 (-1000000) (p i))), some (.int (gd_q2 (p i))), some (.int (nI i)), some (.int (nI (gd_tw τ (gd_miss τ d') i))), some (.int (nI (gd_cs lo' sh' i))), o10] [.int (gd_b u)] h n 0 0 (pj_is (some (.int (if j = 0 then gd_q1 (-1000000) (p 4) else gd_q2 (p 4)))) h n) := by
          intro u hu
          refine pj_ist10 (q := 128) (pj_d p_X12_tests 69 rfl) rfl (by first | rfl | assumption) ?_
          refine pj_ild10 (q := 130) (pj_d p_X12_tests 70 rfl) rfl ?_
          have fin : ∀ x y, x = gd_q1 (-1000000) (p (i + 1)) → y = gd_q2 (p (i + 1)) → pj_V E B l Y_X12_tests 5 0 0 156 [some (.ref g), some (.int (nI d')), some (.int (nI lo')), some (.int (nI sh')), some (.int (nI j)), some (.int (x)), some (.int (y)), some (.int (nI i)), some (.int (nI (gd_tw τ (gd_miss τ d') i))), some (.int (nI (gd_cs lo' sh' i))), some (.int (gd_b u))] [] h n 0 0 (pj_is (some (.int (if j = 0 then gd_q1 (-1000000) (p 4) else gd_q2 (p 4)))) h n) := by
            intro x y hx hy
            subst hx
            subst hy
            refine pj_iinc7 (q := 159) (v := 1) (pj_d p_X12_tests 82 rfl) rfl (by first | rfl | assumption) (by decide) ?_
            refine pj_goto (t := 70) (pj_d p_X12_tests 83 rfl) (by decide) ?_
            rw [nI_1]
            exact ih (i + 1) _ _ _ rfl rfl rfl (by omega) (by omega)
          refine pj_if_eq (t := 138) (q := 133) (pj_d p_X12_tests 71 rfl) rfl (by decide) (fun c8 => ?_) (fun c8 => ?_)
          · have hn : p (i + 1) = p i := by
              rw [← hp, gd_bt, if_neg]
              rw [hp]
              exact fun q => by have := hu.mpr q; rw [(gd_b_z _).mp c8] at this; cases this
            refine pj_ild5 (q := 140) (pj_d p_X12_tests 74 rfl) rfl ?_
            refine pj_ist5 (q := 142) (pj_d p_X12_tests 75 rfl) rfl (by first | rfl | assumption) ?_
            refine pj_ild10 (q := 144) (pj_d p_X12_tests 76 rfl) rfl ?_
            refine pj_if_eq (t := 152) (q := 147) (pj_d p_X12_tests 77 rfl) rfl (by decide) (fun c9 => ?_) (fun c9 => ?_)
            · refine pj_ild6 (q := 154) (pj_d p_X12_tests 80 rfl) rfl ?_
              refine pj_ist6 (q := 156) (pj_d p_X12_tests 81 rfl) rfl (by first | rfl | assumption) ?_
              exact fin _ _ (by rw [hn]) (by rw [hn])
            · exact absurd c8 c9
          · have hy : p (i + 1) = some (gd_tw τ (gd_miss τ d') i, gd_cs lo' sh' i) := by
              rw [← hp, gd_bt, if_pos]
              rw [hp]
              exact hu.mp ((gd_b_n _).mp c8)
            refine pj_ild8 (q := 135) (pj_d p_X12_tests 72 rfl) rfl ?_
            refine pj_goto (t := 140) (pj_d p_X12_tests 73 rfl) (by decide) ?_
            refine pj_ist5 (q := 142) (pj_d p_X12_tests 75 rfl) rfl (by first | rfl | assumption) ?_
            refine pj_ild10 (q := 144) (pj_d p_X12_tests 76 rfl) rfl ?_
            refine pj_if_eq (t := 152) (q := 147) (pj_d p_X12_tests 77 rfl) rfl (by decide) (fun c9 => ?_) (fun c9 => ?_)
            · exact absurd c9 c8
            · refine pj_ild9 (q := 149) (pj_d p_X12_tests 78 rfl) rfl ?_
              refine pj_goto (t := 154) (pj_d p_X12_tests 79 rfl) (by decide) ?_
              refine pj_ist6 (q := 156) (pj_d p_X12_tests 81 rfl) rfl (by first | rfl | assumption) ?_
              exact fin _ _ (by rw [hy]; rfl) (by rw [hy]; rfl)
        cases hpi : p i with
        | none =>
          rw [hpi] at put
          refine pj_icmp_gt (t := 121) (q := 107) (pj_d p_X12_tests 59 rfl) rfl (by decide) (fun c7 => ?_) (fun c7 => ?_)
          · refine pj_iconst (q := 122) (v := nI 1) (pj_d p_X12_tests 66 rfl) rfl (by decide) ?_
            refine pj_goto (t := 126) (pj_d p_X12_tests 67 rfl) (by decide) ?_
            exact put true ⟨fun _ q hq => (by cases hq), fun _ => rfl⟩
          · exfalso
            apply c7
            rw [Int32.lt_iff_toInt_lt, nI_toInt (by omega), show (gd_q1 (-1000000) none).toInt = -1000000 from by decide]
            omega
        | some q =>
          have hq := gd_bt_le h7 (st := gd_miss τ d') hl hs i q (by omega) (by rw [hp]; exact hpi)
          rw [hpi] at put
          rw [show gd_q1 (-1000000) (some q) = nI q.1 from rfl, show gd_q2 (some q) = nI q.2 from rfl] at put ⊢
          have key : (∀ q', some q = some q' → (q'.1 < gd_tw τ (gd_miss τ d') i ∨ (gd_tw τ (gd_miss τ d') i = q'.1 ∧ gd_cs lo' sh' i < q'.2))) ↔ (q.1 < gd_tw τ (gd_miss τ d') i ∨ (gd_tw τ (gd_miss τ d') i = q.1 ∧ gd_cs lo' sh' i < q.2)) := ⟨fun z => z q rfl, fun z q' e => by cases e; exact z⟩
          refine pj_icmp_gt (t := 121) (q := 107) (pj_d p_X12_tests 59 rfl) rfl (by decide) (fun c7 => ?_) (fun c7 => ?_)
          · have := (nI_ltI (by omega) (by omega)).mp c7
            refine pj_iconst (q := 122) (v := nI 1) (pj_d p_X12_tests 66 rfl) rfl (by decide) ?_
            refine pj_goto (t := 126) (pj_d p_X12_tests 67 rfl) (by decide) ?_
            exact put true ⟨fun _ => key.mpr (Or.inl this), fun _ => rfl⟩
          have hnl : ¬ q.1 < gd_tw τ (gd_miss τ d') i := fun z => c7 (nI_lt z (by omega))
          refine pj_ild8 (q := 109) (pj_d p_X12_tests 60 rfl) rfl ?_
          refine pj_ild5 (q := 111) (pj_d p_X12_tests 61 rfl) rfl ?_
          refine pj_icmp_ne (t := 125) (q := 114) (pj_d p_X12_tests 62 rfl) rfl (by decide) (fun c8 => ?_) (fun c8 => ?_)
          · refine pj_iconst (q := 126) (v := nI 0) (pj_d p_X12_tests 68 rfl) rfl (by decide) ?_
            exact put false ⟨fun z => (by cases z), fun z => by
              rcases key.mp z with z | z
              · exact absurd z hnl
              · exact absurd (by rw [z.1]) c8⟩
          have heq := (nI_eq (by omega) (by omega)).mp c8
          refine pj_ild9 (q := 116) (pj_d p_X12_tests 63 rfl) rfl ?_
          refine pj_ild6 (q := 118) (pj_d p_X12_tests 64 rfl) rfl ?_
          refine pj_icmp_ge (t := 125) (q := 121) (pj_d p_X12_tests 65 rfl) rfl (by decide) (fun c9 => ?_) (fun c9 => ?_)
          · have := gd_ge c9 (by omega) (by omega)
            refine pj_iconst (q := 126) (v := nI 0) (pj_d p_X12_tests 68 rfl) rfl (by decide) ?_
            exact put false ⟨fun z => (by cases z), fun z => by
              rcases key.mp z with z | z
              · exact absurd z hnl
              · omega⟩
          · have := gd_lt c9 (by omega)
            refine pj_iconst (q := 122) (v := nI 1) (pj_d p_X12_tests 66 rfl) rfl (by decide) ?_
            refine pj_goto (t := 126) (pj_d p_X12_tests 67 rfl) (by decide) ?_
            exact put true ⟨fun _ => key.mpr (Or.inr ⟨heq, this⟩), fun _ => rfl⟩
    subst hp
    exact loop 5 0 none none none rfl rfl rfl (by omega) (by omega)
  · exact bad (by rw [(gd_b_z _).mp c5]; simp)
end
section
variable {E : pj_E} {B : Nat} {l : Launch} {h : pj_H} {n k ac f0 : Nat} {τ : Nat → Nat} {f : Nat → Int32}
theorem c_X3_isTold (hF : gd_F h f0) (hf : h (f0 + 1) = some (.inl (0, 7, .inl f))) (hT : gd_T h k τ ac) (hW : gd_W τ) {st : Nat} (hs : st < 32) (hlk : gd_looked τ st f) {a : Nat} (ha : a < τ 1) (bl bs : Bool) : pj_Ct E B l Y_X3_isTold 2 0 0 [.ref f0, .ref k, .int (nI a), .int (gd_b bl), .int (gd_b bs)] h n (pj_is (some (.int (gd_b (gd_tl τ st bl bs a)))) h n) := by
  have h7 := hW.1
  have t0 := hT.1
  have F0 := hF.1
  obtain ⟨ka, -, sa⟩ := hW.2.2.2.2.1 a ha
  have ta := hT.2.2.2.1 a ha
  generalize hr : gd_tp τ st bl bs a = r
  have hpa : gd_tl τ st bl bs a = gd_al r (τ 1) := by rw [← hr]; rfl
  rw [hpa]
  refine pj_in rfl (ls := [some (.ref f0), some (.ref k), some (.int (nI a)), some (.int (gd_b bl)), some (.int (gd_b bs)), none, none, none]) rfl (Nat.le_of_ble_eq_true rfl) ?_
  refine pj_iconst (q := 1) (v := nI 0) (pj_d p_X3_isTold 0 rfl) rfl (by decide) ?_
  refine pj_ist5 (q := 3) (pj_d p_X3_isTold 1 rfl) rfl (by first | rfl | assumption) ?_
  have loop : ∀ m b o6 o7, pj_c1 o6 = true → pj_c1 o7 = true → gd_al r b = true → τ 1 - b < m → b ≤ τ 1 → pj_V E B l Y_X3_isTold 2 0 0 3 [some (.ref f0), some (.ref k), some (.int (nI a)), some (.int (gd_b bl)), some (.int (gd_b bs)), some (.int (nI b)), o6, o7] [] h n 0 0 (pj_is (some (.int (gd_b (gd_al r (τ 1))))) h n) := by
    intro m
    induction m with
    | zero => intro b o6 o7 _ _ _ hi; omega
    | succ m ih =>
      intro b o6 o7 k6 k7 hal hi hle
      refine pj_ild5 (q := 5) (pj_d p_X3_isTold 2 rfl) rfl ?_
      refine pj_ald1 (q := 6) (pj_d p_X3_isTold 3 rfl) rfl ?_
      refine pj_cp (pj_rV (q := 9) (c_X9_thingCount hT) (pj_d p_X3_isTold 4 rfl) rfl kX3_23 o_X9_thingCount (by assumption) (by rfl) (by rfl) (by rfl) (by rfl) (Nat.le_of_ble_eq_true rfl) (by decide)) (by decide) (by decide) ?_
      refine pj_icmp_ge (t := 95) (q := 12) (pj_d p_X3_isTold 5 rfl) rfl (by decide) (fun c1 => ?_) (fun c1 => ?_)
      · have he : b = (τ 1) := by have := gd_ge c1 (by omega) (by omega); omega
        subst he
        rw [hal]
        refine pj_iconst (q := 96) (v := nI 1) (pj_d p_X3_isTold 47 rfl) rfl (by decide) ?_
        refine pj_zret rfl (by first | rfl | decide | (split <;> rfl)) (pj_d p_X3_isTold 48 rfl) (by decide) (by decide) ?_
        exact ⟨rfl, rfl, rfl⟩
      have hb : b < τ 1 := gd_lt c1 (by omega)
      obtain ⟨kb, -, sb⟩ := hW.2.2.2.2.1 b hb
      have tb := hT.2.2.2.1 b hb
      have la := gd_lk_lt hW ha hs
      have lb := gd_lk_lt hW hb hs
      have hrb : r b = (decide (a = b) || gd_un τ st bl bs a b) := by rw [← hr]; rfl
      have fin : ∀ u1 u2 : Bool, gd_un τ st bl bs a b = (u1 || u2) → pj_V E B l Y_X3_isTold 2 0 0 69 [some (.ref f0), some (.ref k), some (.int (nI a)), some (.int (gd_b bl)), some (.int (gd_b bs)), some (.int (nI b)), some (.int (gd_b u1)), o7] [.int (gd_b u2)] h n 0 0 (pj_is (some (.int (gd_b (gd_al r (τ 1))))) h n) := by
        intro u1 u2 hu
        have next : r b = true → pj_V E B l Y_X3_isTold 2 0 0 89 [some (.ref f0), some (.ref k), some (.int (nI a)), some (.int (gd_b bl)), some (.int (gd_b bs)), some (.int (nI b)), some (.int (gd_b u1)), some (.int (gd_b u2))] [] h n 0 0 (pj_is (some (.int (gd_b (gd_al r (τ 1))))) h n) := by
          intro hy
          refine pj_iinc5 (q := 92) (v := 1) (pj_d p_X3_isTold 45 rfl) rfl (by first | rfl | assumption) (by decide) ?_
          refine pj_goto (t := 3) (pj_d p_X3_isTold 46 rfl) (by decide) ?_
          rw [nI_1]
          exact ih (b + 1) _ _ rfl rfl (by rw [gd_al, hal, hy]; rfl) (by omega) (by omega)
        refine pj_ist7 (q := 71) (pj_d p_X3_isTold 35 rfl) rfl (by first | rfl | assumption) ?_
        refine pj_ild5 (q := 73) (pj_d p_X3_isTold 36 rfl) rfl ?_
        refine pj_ild2 (q := 74) (pj_d p_X3_isTold 37 rfl) rfl ?_
        refine pj_icmp_eq (t := 89) (q := 77) (pj_d p_X3_isTold 38 rfl) rfl (by decide) (fun c2 => ?_) (fun c2 => ?_)
        · exact next (by rw [hrb, decide_eq_true ((nI_eq (by omega) (by omega)).mp c2).symm]; rfl)
        have hab : ¬ a = b := fun q => c2 (by rw [q])
        refine pj_ild6 (q := 79) (pj_d p_X3_isTold 39 rfl) rfl ?_
        refine pj_if_ne (t := 89) (q := 82) (pj_d p_X3_isTold 40 rfl) rfl (by decide) (fun c3 => ?_) (fun c3 => ?_)
        · exact next (by rw [hrb, hu, (gd_b_n _).mp c3]; simp)
        refine pj_ild7 (q := 84) (pj_d p_X3_isTold 41 rfl) rfl ?_
        refine pj_if_ne (t := 89) (q := 87) (pj_d p_X3_isTold 42 rfl) rfl (by decide) (fun c4 => ?_) (fun c4 => ?_)
        · exact next (by rw [hrb, hu, (gd_b_n _).mp c4]; simp)
        · have hf : r b = false := by rw [hrb, decide_eq_false hab, hu, (gd_b_z _).mp c3, (gd_b_z _).mp c4]; rfl
          have := gd_al_f hf (τ 1 - (b + 1))
          rw [show b + 1 + (τ 1 - (b + 1)) = τ 1 by omega] at this
          rw [this]
          refine pj_iconst (q := 88) (v := nI 0) (pj_d p_X3_isTold 43 rfl) rfl (by decide) ?_
          refine pj_zret rfl (by first | rfl | decide | (split <;> rfl)) (pj_d p_X3_isTold 44 rfl) (by decide) (by decide) ?_
          exact ⟨rfl, rfl, rfl⟩
      have shp : ∀ u1 : Bool, (bl && !decide (gd_lk τ a st = gd_lk τ b st)) = u1 → pj_V E B l Y_X3_isTold 2 0 0 37 [some (.ref f0), some (.ref k), some (.int (nI a)), some (.int (gd_b bl)), some (.int (gd_b bs)), some (.int (nI b)), o6, o7] [.int (gd_b u1)] h n 0 0 (pj_is (some (.int (gd_b (gd_al r (τ 1))))) h n) := by
        intro u1 hu1
        refine pj_ist6 (q := 39) (pj_d p_X3_isTold 20 rfl) rfl (by first | rfl | assumption) ?_
        refine pj_ild4 (q := 41) (pj_d p_X3_isTold 21 rfl) rfl ?_
        refine pj_if_eq (t := 68) (q := 44) (pj_d p_X3_isTold 22 rfl) rfl (by decide) (fun c2 => ?_) (fun c2 => ?_)
        · refine pj_iconst (q := 69) (v := nI 0) (pj_d p_X3_isTold 34 rfl) rfl (by decide) ?_
          exact fin u1 false (by rw [gd_un, hu1, (gd_b_z _).mp c2]; rfl)
        refine pj_ald1 (q := 45) (pj_d p_X3_isTold 23 rfl) rfl ?_
        refine pj_ild2 (q := 46) (pj_d p_X3_isTold 24 rfl) rfl ?_
        refine pj_cp (pj_rV (q := 49) (c_X9_thingAt hT h7 ha) (pj_d p_X3_isTold 25 rfl) rfl kX3_27 o_X9_thingAt (by assumption) (by rfl) (by rfl) (by rfl) (by rfl) (Nat.le_of_ble_eq_true rfl) (by decide)) (by decide) (by decide) ?_
        refine pj_cp (vX3_131 (q := 52) rfl ta ka (c_X8_shaped (ci := 0) ta ka) (pj_d p_X3_isTold 26 rfl) rfl rfl rfl (Nat.le_of_ble_eq_true rfl) (by decide)) (by decide) (by decide) ?_
        refine pj_ald1 (q := 53) (pj_d p_X3_isTold 27 rfl) rfl ?_
        refine pj_ild5 (q := 55) (pj_d p_X3_isTold 28 rfl) rfl ?_
        refine pj_cp (pj_rV (q := 58) (c_X9_thingAt hT h7 hb) (pj_d p_X3_isTold 29 rfl) rfl kX3_27 o_X9_thingAt (by assumption) (by rfl) (by rfl) (by rfl) (by rfl) (Nat.le_of_ble_eq_true rfl) (by decide)) (by decide) (by decide) ?_
        refine pj_cp (vX3_131 (q := 61) rfl tb kb (c_X8_shaped (ci := 0) tb kb) (pj_d p_X3_isTold 30 rfl) rfl rfl rfl (Nat.le_of_ble_eq_true rfl) (by decide)) (by decide) (by decide) ?_
        refine pj_icmp_eq (t := 68) (q := 64) (pj_d p_X3_isTold 31 rfl) rfl (by decide) (fun c3 => ?_) (fun c3 => ?_)
        · refine pj_iconst (q := 69) (v := nI 0) (pj_d p_X3_isTold 34 rfl) rfl (by decide) ?_
          exact fin u1 false (by rw [gd_un, hu1, decide_eq_true ((nI_eq (by omega) (by omega)).mp c3)]; simp)
        · have hne : ¬ τ (13 + 3 * a) = τ (13 + 3 * b) := fun q => c3 (by rw [q])
          refine pj_iconst (q := 65) (v := nI 1) (pj_d p_X3_isTold 32 rfl) rfl (by decide) ?_
          refine pj_goto (t := 69) (pj_d p_X3_isTold 33 rfl) (by decide) ?_
          exact fin u1 true (by rw [gd_un, hu1, (gd_b_n _).mp c2, decide_eq_false hne]; rfl)
      refine pj_ild3 (q := 13) (pj_d p_X3_isTold 6 rfl) rfl ?_
      refine pj_if_eq (t := 36) (q := 16) (pj_d p_X3_isTold 7 rfl) rfl (by decide) (fun c2 => ?_) (fun c2 => ?_)
      · refine pj_iconst (q := 37) (v := nI 0) (pj_d p_X3_isTold 19 rfl) rfl (by decide) ?_
        exact shp false (by rw [(gd_b_z _).mp c2]; rfl)
      refine pj_ald0 (q := 17) (pj_d p_X3_isTold 8 rfl) rfl ?_
      refine pj_gf (q := 20) (k := 0) (pj_d p_X3_isTold 9 rfl) rfl kX3_11 (by assumption) (by rfl) (by rfl) ?_
      refine pj_ild2 (q := 21) (pj_d p_X3_isTold 10 rfl) rfl ?_
      refine pj_ialdN (q := 22) (pj_d p_X3_isTold 11 rfl) rfl (by assumption) (by rfl) (by first | assumption | omega) (Nat.le_of_ble_eq_true rfl) ?_
      rw [hlk a ha]
      refine pj_ald0 (q := 23) (pj_d p_X3_isTold 12 rfl) rfl ?_
      refine pj_gf (q := 26) (k := 0) (pj_d p_X3_isTold 13 rfl) rfl kX3_11 (by assumption) (by rfl) (by rfl) ?_
      refine pj_ild5 (q := 28) (pj_d p_X3_isTold 14 rfl) rfl ?_
      refine pj_ialdN (q := 29) (pj_d p_X3_isTold 15 rfl) rfl (by assumption) (by rfl) (by first | assumption | omega) (Nat.le_of_ble_eq_true rfl) ?_
      rw [hlk b hb]
      refine pj_icmp_eq (t := 36) (q := 32) (pj_d p_X3_isTold 16 rfl) rfl (by decide) (fun c3 => ?_) (fun c3 => ?_)
      · refine pj_iconst (q := 37) (v := nI 0) (pj_d p_X3_isTold 19 rfl) rfl (by decide) ?_
        exact shp false (by rw [decide_eq_true ((nI_eq (by omega) (by omega)).mp c3)]; simp)
      · have hne : ¬ gd_lk τ a st = gd_lk τ b st := fun q => c3 (by rw [q])
        refine pj_iconst (q := 33) (v := nI 1) (pj_d p_X3_isTold 17 rfl) rfl (by decide) ?_
        refine pj_goto (t := 37) (pj_d p_X3_isTold 18 rfl) (by decide) ?_
        exact shp true (by rw [(gd_b_n _).mp c2, decide_eq_false hne]; rfl)
  exact loop (τ 1 + 1) 0 none none rfl rfl rfl (by omega) (by omega)
theorem c_X3_countTold (hF : gd_F h f0) (hf : h (f0 + 1) = some (.inl (0, 7, .inl f))) (hT : gd_T h k τ ac) (hW : gd_W τ) {st : Nat} (hs : st < 32) (hlk : gd_looked τ st f) (bl bs : Bool) : pj_Ct E B l Y_X3_countTold 3 0 0 [.ref f0, .ref k, .int (gd_b bl), .int (gd_b bs)] h n (pj_is (some (.int (nI (gd_td τ st bl bs)))) h n) := by
  have h7 := hW.1
  have t0 := hT.1
  have F0 := hF.1
  rw [gd_td]
  generalize hp : gd_tl τ st bl bs = p
  refine pj_in rfl (ls := [some (.ref f0), some (.ref k), some (.int (gd_b bl)), some (.int (gd_b bs)), none, none]) rfl (Nat.le_of_ble_eq_true rfl) ?_
  refine pj_iconst (q := 1) (v := nI 0) (pj_d p_X3_countTold 0 rfl) rfl (by decide) ?_
  refine pj_ist4 (q := 3) (pj_d p_X3_countTold 1 rfl) rfl (by first | rfl | assumption) ?_
  refine pj_iconst (q := 4) (v := nI 0) (pj_d p_X3_countTold 2 rfl) rfl (by decide) ?_
  refine pj_ist5 (q := 6) (pj_d p_X3_countTold 3 rfl) rfl (by first | rfl | assumption) ?_
  have loop : ∀ m i, (τ 1) - i < m → i ≤ (τ 1) → pj_V E B l Y_X3_countTold 3 0 0 6 [some (.ref f0), some (.ref k), some (.int (gd_b bl)), some (.int (gd_b bs)), some (.int (nI (gd_ct p i))), some (.int (nI i))] [] h n 0 0 (pj_is (some (.int (nI (gd_ct p (τ 1))))) h n) := by
    intro m
    induction m with
    | zero => intro i hi; omega
    | succ m ih =>
      intro i hi hle
      refine pj_ild5 (q := 8) (pj_d p_X3_countTold 4 rfl) rfl ?_
      refine pj_ald1 (q := 9) (pj_d p_X3_countTold 5 rfl) rfl ?_
      refine pj_cp (pj_rV (q := 12) (c_X9_thingCount hT) (pj_d p_X3_countTold 6 rfl) rfl kX3_23 o_X9_thingCount (by assumption) (by rfl) (by rfl) (by rfl) (by rfl) (Nat.le_of_ble_eq_true rfl) (by decide)) (by decide) (by decide) ?_
      refine pj_icmp_ge (t := 36) (q := 15) (pj_d p_X3_countTold 7 rfl) rfl (by decide) (fun c1 => ?_) (fun c1 => ?_)
      · have he : i = (τ 1) := by have := gd_ge c1 (by omega) (by omega); omega
        subst he
        refine pj_ild4 (q := 38) (pj_d p_X3_countTold 18 rfl) rfl ?_
        refine pj_iret rfl (pj_d p_X3_countTold 19 rfl) (by decide) (by decide) ?_
        exact ⟨rfl, rfl, rfl⟩
      have hlt : i < τ 1 := gd_lt c1 (by omega)
      refine pj_ald0 (q := 16) (pj_d p_X3_countTold 8 rfl) rfl ?_
      refine pj_ald1 (q := 17) (pj_d p_X3_countTold 9 rfl) rfl ?_
      refine pj_ild5 (q := 19) (pj_d p_X3_countTold 10 rfl) rfl ?_
      refine pj_ild2 (q := 20) (pj_d p_X3_countTold 11 rfl) rfl ?_
      refine pj_ild3 (q := 21) (pj_d p_X3_countTold 12 rfl) rfl ?_
      refine pj_cp (pj_rV (q := 24) (c_X3_isTold hF hf hT hW hs hlk hlt bl bs) (pj_d p_X3_countTold 13 rfl) rfl kX3_127 o_X3_isTold (by assumption) (by rfl) (by rfl) (by rfl) (by rfl) (Nat.le_of_ble_eq_true rfl) (by decide)) (by decide) (by decide) ?_
      have fin : ∀ z, z = gd_ct p (i + 1) → pj_V E B l Y_X3_countTold 3 0 0 30 [some (.ref f0), some (.ref k), some (.int (gd_b bl)), some (.int (gd_b bs)), some (.int (nI z)), some (.int (nI i))] [] h n 0 0 (pj_is (some (.int (nI (gd_ct p (τ 1))))) h n) := by
        intro z hz
        subst hz
        refine pj_iinc5 (q := 33) (v := 1) (pj_d p_X3_countTold 16 rfl) rfl (by first | rfl | assumption) (by decide) ?_
        refine pj_goto (t := 6) (pj_d p_X3_countTold 17 rfl) (by decide) ?_
        rw [nI_1]
        exact ih (i + 1) (by omega) (by omega)
      refine pj_if_eq (t := 30) (q := 27) (pj_d p_X3_countTold 14 rfl) rfl (by decide) (fun c2 => ?_) (fun c2 => ?_)
      · exact fin _ (by rw [gd_ct, ← hp, (gd_b_z _).mp c2]; rfl)
      · refine pj_iinc4 (q := 30) (v := 1) (pj_d p_X3_countTold 15 rfl) rfl (by first | rfl | assumption) (by decide) ?_
        rw [nI_1]
        exact fin _ (by rw [gd_ct, ← hp, (gd_b_n _).mp c2]; rfl)
  exact loop (τ 1 + 1) 0 (by omega) (by omega)
theorem c_X3_bestTest (hF : gd_F h f0) (hT : gd_T h k τ ac) (hW : gd_W τ) (hk : f0 + 3 < k) {d lo sh j : Nat} (hd : d ≤ 100) (hl : lo ≤ 20) (hsh : sh ≤ 20) (hj : j ≤ 1) : pj_Ct E B l Y_X3_bestTest 5 0 0 [.ref f0, .ref k, .int (nI d), .int (nI lo), .int (nI sh), .int (nI j)] h n (gd_sc (if j = 0 then gd_q1 (-1000000) (gd_bt τ (gd_miss τ d) lo sh 4) else gd_q2 (gd_bt τ (gd_miss τ d) lo sh 4)) h f0 n) := by
  have h7 := hW.1
  have hs := gd_miss_lt hW d
  have t0 := hT.1
  have F0 := hF.1
  refine pj_in rfl (ls := [some (.ref f0), some (.ref k), some (.int (nI d)), some (.int (nI lo)), some (.int (nI sh)), some (.int (nI j)), none, none, none, none, none, none, none]) rfl (Nat.le_of_ble_eq_true rfl) ?_
  refine pj_ald0 (q := 1) (pj_d p_X3_bestTest 0 rfl) rfl ?_
  refine pj_ald1 (q := 2) (pj_d p_X3_bestTest 1 rfl) rfl ?_
  refine pj_ald1 (q := 3) (pj_d p_X3_bestTest 2 rfl) rfl ?_
  refine pj_ild2 (q := 4) (pj_d p_X3_bestTest 3 rfl) rfl ?_
  refine pj_cp (pj_rV (q := 7) (c_X9_missingIn hT hW (d := d) (by omega)) (pj_d p_X3_bestTest 4 rfl) rfl kX3_37 o_X9_missingIn (by assumption) (by rfl) (by rfl) (by rfl) (by rfl) (Nat.le_of_ble_eq_true rfl) (by decide)) (by decide) (by decide) ?_
  refine pj_cv (pj_rV (q := 10) (c_X3_lookAt hF hT hW hk hs) (pj_d p_X3_bestTest 5 rfl) rfl kX3_40 o_X3_lookAt (by assumption) (by rfl) (by rfl) (by rfl) (by rfl) (Nat.le_of_ble_eq_true rfl) (by decide)) (by decide) (by decide) ?_
  rintro r h' n' ⟨rfl, rfl, f, rfl, hlk⟩
  generalize hst : gd_miss τ d = st at hs hlk ⊢
  show pj_V E B l Y_X3_bestTest 5 0 0 10 [some (.ref f0), some (.ref k), some (.int (nI d)), some (.int (nI lo)), some (.int (nI sh)), some (.int (nI j)), none, none, none, none, none, none, none] [] (pj_up h (f0 + 1) (.inl (0, 7, .inl f))) n' 0 0 (gd_sc (if j = 0 then gd_q1 (-1000000) (gd_bt τ st lo sh 4) else gd_q2 (gd_bt τ st lo sh 4)) h f0 n')
  have hT1 : gd_T (pj_up h (f0 + 1) (.inl (0, 7, .inl f))) k τ ac := hT.up (by omega)
  have hF1 := hF.up (f := f)
  have F1 := hF1.1
  have t1 := hT1.1
  generalize hp : gd_bt τ st lo sh = p
  refine pj_iconst (q := 11) (v := (-1)) (pj_d p_X3_bestTest 6 rfl) rfl (by decide) ?_
  refine pj_ist6 (q := 13) (pj_d p_X3_bestTest 7 rfl) rfl (by first | rfl | assumption) ?_
  refine pj_iconst (q := 14) (v := nI 0) (pj_d p_X3_bestTest 8 rfl) rfl (by decide) ?_
  refine pj_ist7 (q := 16) (pj_d p_X3_bestTest 9 rfl) rfl (by first | rfl | assumption) ?_
  refine pj_iconst (q := 17) (v := nI 0) (pj_d p_X3_bestTest 10 rfl) rfl (by decide) ?_
  refine pj_ist8 (q := 19) (pj_d p_X3_bestTest 11 rfl) rfl (by first | rfl | assumption) ?_
  have loop : ∀ m i o9 o10 o11 o12, pj_c1 o9 = true → pj_c1 o10 = true → pj_c1 o11 = true → pj_c1 o12 = true → 4 - i < m → i ≤ 4 → pj_V E B l Y_X3_bestTest 5 0 0 19 [some (.ref f0), some (.ref k), some (.int (nI d)), some (.int (nI lo)), some (.int (nI sh)), some (.int (nI j)), some (.int (gd_q1 (-1) (p i))), some (.int (gd_q2 (p i))), some (.int (nI i)), o9, o10, o11, o12] [] (pj_up h (f0 + 1) (.inl (0, 7, .inl f))) n' 0 0 (gd_sc (if j = 0 then gd_q1 (-1000000) (p 4) else gd_q2 (p 4)) h f0 n') := by
    intro m
    induction m with
    | zero => intro i o9 o10 o11 o12 _ _ _ _ hi; omega
    | succ m ih =>
      intro i o9 o10 o11 o12 k9 k10 k11 k12 hi hle
      refine pj_ild8 (q := 21) (pj_d p_X3_bestTest 12 rfl) rfl ?_
      refine pj_iconst (q := 22) (v := nI 4) (pj_d p_X3_bestTest 13 rfl) rfl (by decide) ?_
      refine pj_icmp_ge (t := 123) (q := 25) (pj_d p_X3_bestTest 14 rfl) rfl (by decide) (fun c6 => ?_) (fun c6 => ?_)
      · have he : i = 4 := by have := gd_ge c6 (by omega) (by omega); omega
        subst he
        obtain ⟨q4, hq4⟩ := gd_bt_some (τ := τ) (st := st) (lo := lo) (sh := sh) 3
        rw [hp] at hq4
        refine pj_ild5 (q := 125) (pj_d p_X3_bestTest 64 rfl) rfl ?_
        refine pj_if_ne (t := 133) (q := 128) (pj_d p_X3_bestTest 65 rfl) rfl (by decide) (fun c7 => ?_) (fun c7 => ?_)
        · have hj0 : ¬ j = 0 := fun q => c7 (by rw [q]; rfl)
          refine pj_ild7 (q := 135) (pj_d p_X3_bestTest 68 rfl) rfl ?_
          refine pj_iret rfl (pj_d p_X3_bestTest 69 rfl) (by decide) (by decide) ?_
          exact ⟨by rw [if_neg hj0], rfl, f, rfl⟩
        · have hj0 : j = 0 := (nI_eq (by omega) (by omega)).mp (c7.trans nI_0.symm)
          refine pj_ild6 (q := 130) (pj_d p_X3_bestTest 66 rfl) rfl ?_
          refine pj_goto (t := 135) (pj_d p_X3_bestTest 67 rfl) (by decide) ?_
          refine pj_iret rfl (pj_d p_X3_bestTest 69 rfl) (by decide) (by decide) ?_
          exact ⟨by rw [if_pos hj0, hq4]; rfl, rfl, f, rfl⟩
      have hlt : i < 4 := gd_lt c6 (by omega)
      have b1 := gd_tw_le h7 st i
      have b2 := gd_cs_le hl hsh hlt
      have rest : ∀ bl bs : Bool, bl = decide (i % 2 = 1) → bs = decide (2 ≤ i) → pj_V E B l Y_X3_bestTest 5 0 0 53 [some (.ref f0), some (.ref k), some (.int (nI d)), some (.int (nI lo)), some (.int (nI sh)), some (.int (nI j)), some (.int (gd_q1 (-1) (p i))), some (.int (gd_q2 (p i))), some (.int (nI i)), some (.int (gd_b bl)), some (.int (gd_b bs)), o11, o12] [] (pj_up h (f0 + 1) (.inl (0, 7, .inl f))) n' 0 0 (gd_sc (if j = 0 then gd_q1 (-1000000) (p 4) else gd_q2 (p 4)) h f0 n') := by
        intro bl bs hbl hbs
        have tl : ∀ c, c = gd_cs lo sh i → pj_V E B l Y_X3_bestTest 5 0 0 75 [some (.ref f0), some (.ref k), some (.int (nI d)), some (.int (nI lo)), some (.int (nI sh)), some (.int (nI j)), some (.int (gd_q1 (-1) (p i))), some (.int (gd_q2 (p i))), some (.int (nI i)), some (.int (gd_b bl)), some (.int (gd_b bs)), o11, o12] [.int (nI c)] (pj_up h (f0 + 1) (.inl (0, 7, .inl f))) n' 0 0 (gd_sc (if j = 0 then gd_q1 (-1000000) (p 4) else gd_q2 (p 4)) h f0 n') := by
          intro c hc
          subst hc
          refine pj_ist11 (q := 77) (pj_d p_X3_bestTest 42 rfl) rfl (by first | rfl | assumption) ?_
          refine pj_ald0 (q := 78) (pj_d p_X3_bestTest 43 rfl) rfl ?_
          refine pj_ald1 (q := 79) (pj_d p_X3_bestTest 44 rfl) rfl ?_
          refine pj_ild9 (q := 81) (pj_d p_X3_bestTest 45 rfl) rfl ?_
          refine pj_ild10 (q := 83) (pj_d p_X3_bestTest 46 rfl) rfl ?_
          refine pj_cp (pj_rV (q := 86) (c_X3_countTold hF1 pj_up_s hT1 hW hs hlk bl bs) (pj_d p_X3_bestTest 47 rfl) rfl kX3_123 o_X3_countTold (by assumption) (by rfl) (by rfl) (by rfl) (by rfl) (Nat.le_of_ble_eq_true rfl) (by decide)) (by decide) (by decide) ?_
          have htw : gd_td τ st bl bs = gd_tw τ st i := by rw [gd_tw, hbl, hbs]
          rw [htw]
          refine pj_ist12 (q := 88) (pj_d p_X3_bestTest 48 rfl) rfl (by first | rfl | assumption) ?_
          refine pj_ild12 (q := 90) (pj_d p_X3_bestTest 49 rfl) rfl ?_
          refine pj_ild6 (q := 92) (pj_d p_X3_bestTest 50 rfl) rfl ?_
          have fin : ∀ x y, x = gd_q1 (-1) (p (i + 1)) → y = gd_q2 (p (i + 1)) → pj_V E B l Y_X3_bestTest 5 0 0 117 [some (.ref f0), some (.ref k), some (.int (nI d)), some (.int (nI lo)), some (.int (nI sh)), some (.int (nI j)), some (.int (x)), some (.int (y)), some (.int (nI i)), some (.int (gd_b bl)), some (.int (gd_b bs)), some (.int (nI (gd_cs lo sh i))), some (.int (nI (gd_tw τ st i)))] [] (pj_up h (f0 + 1) (.inl (0, 7, .inl f))) n' 0 0 (gd_sc (if j = 0 then gd_q1 (-1000000) (p 4) else gd_q2 (p 4)) h f0 n') := by
            intro x y hx hy
            subst hx
            subst hy
            refine pj_iinc8 (q := 120) (v := 1) (pj_d p_X3_bestTest 62 rfl) rfl (by first | rfl | assumption) (by decide) ?_
            refine pj_goto (t := 19) (pj_d p_X3_bestTest 63 rfl) (by decide) ?_
            rw [nI_1]
            exact ih (i + 1) _ _ _ _ rfl rfl rfl rfl (by omega) (by omega)
          have yes : (∀ q, p i = some q → (q.1 < gd_tw τ st i ∨ (gd_tw τ st i = q.1 ∧ gd_cs lo sh i < q.2))) → pj_V E B l Y_X3_bestTest 5 0 0 109 [some (.ref f0), some (.ref k), some (.int (nI d)), some (.int (nI lo)), some (.int (nI sh)), some (.int (nI j)), some (.int (gd_q1 (-1) (p i))), some (.int (gd_q2 (p i))), some (.int (nI i)), some (.int (gd_b bl)), some (.int (gd_b bs)), some (.int (nI (gd_cs lo sh i))), some (.int (nI (gd_tw τ st i)))] [] (pj_up h (f0 + 1) (.inl (0, 7, .inl f))) n' 0 0 (gd_sc (if j = 0 then gd_q1 (-1000000) (p 4) else gd_q2 (p 4)) h f0 n') := by
            intro hy
            have hy : p (i + 1) = some (gd_tw τ st i, gd_cs lo sh i) := by
              rw [← hp, gd_bt, if_pos]
              rw [hp]
              exact hy
            refine pj_ild12 (q := 111) (pj_d p_X3_bestTest 58 rfl) rfl ?_
            refine pj_ist6 (q := 113) (pj_d p_X3_bestTest 59 rfl) rfl (by first | rfl | assumption) ?_
            refine pj_ild11 (q := 115) (pj_d p_X3_bestTest 60 rfl) rfl ?_
            refine pj_ist7 (q := 117) (pj_d p_X3_bestTest 61 rfl) rfl (by first | rfl | assumption) ?_
            exact fin _ _ (by rw [hy]; rfl) (by rw [hy]; rfl)
          have no : ¬ (∀ q, p i = some q → (q.1 < gd_tw τ st i ∨ (gd_tw τ st i = q.1 ∧ gd_cs lo sh i < q.2))) → pj_V E B l Y_X3_bestTest 5 0 0 117 [some (.ref f0), some (.ref k), some (.int (nI d)), some (.int (nI lo)), some (.int (nI sh)), some (.int (nI j)), some (.int (gd_q1 (-1) (p i))), some (.int (gd_q2 (p i))), some (.int (nI i)), some (.int (gd_b bl)), some (.int (gd_b bs)), some (.int (nI (gd_cs lo sh i))), some (.int (nI (gd_tw τ st i)))] [] (pj_up h (f0 + 1) (.inl (0, 7, .inl f))) n' 0 0 (gd_sc (if j = 0 then gd_q1 (-1000000) (p 4) else gd_q2 (p 4)) h f0 n') := by
            intro hn
            have hn : p (i + 1) = p i := by
              rw [← hp, gd_bt, if_neg]
              rw [hp]
              exact hn
            exact fin _ _ (by rw [hn]) (by rw [hn])
          cases hpi : p i with
          | none =>
            rw [hpi] at yes no
            refine pj_icmp_gt (t := 109) (q := 95) (pj_d p_X3_bestTest 51 rfl) rfl (by decide) (fun c7 => ?_) (fun c7 => ?_)
            · exact yes (fun q hq => by cases hq)
            · exfalso
              apply c7
              rw [Int32.lt_iff_toInt_lt, nI_toInt (by omega), show (gd_q1 (-1) none).toInt = -1 from by decide]
              omega
          | some q =>
            have hq := gd_bt_le h7 (st := st) hl hsh i q (by omega) (by rw [hp]; exact hpi)
            rw [hpi] at yes no
            rw [show gd_q1 (-1) (some q) = nI q.1 from rfl, show gd_q2 (some q) = nI q.2 from rfl] at yes no ⊢
            have key : (∀ q', some q = some q' → (q'.1 < gd_tw τ st i ∨ (gd_tw τ st i = q'.1 ∧ gd_cs lo sh i < q'.2))) ↔ (q.1 < gd_tw τ st i ∨ (gd_tw τ st i = q.1 ∧ gd_cs lo sh i < q.2)) := ⟨fun z => z q rfl, fun z q' e => by cases e; exact z⟩
            refine pj_icmp_gt (t := 109) (q := 95) (pj_d p_X3_bestTest 51 rfl) rfl (by decide) (fun c7 => ?_) (fun c7 => ?_)
            · have := (nI_ltI (by omega) (by omega)).mp c7
              exact yes (key.mpr (Or.inl this))
            have hnl : ¬ q.1 < gd_tw τ st i := fun z => c7 (nI_lt z (by omega))
            refine pj_ild12 (q := 97) (pj_d p_X3_bestTest 52 rfl) rfl ?_
            refine pj_ild6 (q := 99) (pj_d p_X3_bestTest 53 rfl) rfl ?_
            refine pj_icmp_ne (t := 117) (q := 102) (pj_d p_X3_bestTest 54 rfl) rfl (by decide) (fun c8 => ?_) (fun c8 => ?_)
            · exact no (fun z => by
                rcases key.mp z with z | z
                · exact absurd z hnl
                · exact absurd (by rw [z.1]) c8)
            have heq := (nI_eq (by omega) (by omega)).mp c8
            refine pj_ild11 (q := 104) (pj_d p_X3_bestTest 55 rfl) rfl ?_
            refine pj_ild7 (q := 106) (pj_d p_X3_bestTest 56 rfl) rfl ?_
            refine pj_icmp_ge (t := 117) (q := 109) (pj_d p_X3_bestTest 57 rfl) rfl (by decide) (fun c9 => ?_) (fun c9 => ?_)
            · have := gd_ge c9 (by omega) (by omega)
              exact no (fun z => by
                rcases key.mp z with z | z
                · exact absurd z hnl
                · omega)
            · have := gd_lt c9 (by omega)
              exact yes (key.mpr (Or.inr ⟨heq, this⟩))
        have addb : ∀ x, x = i % 2 * lo → pj_V E B l Y_X3_bestTest 5 0 0 63 [some (.ref f0), some (.ref k), some (.int (nI d)), some (.int (nI lo)), some (.int (nI sh)), some (.int (nI j)), some (.int (gd_q1 (-1) (p i))), some (.int (gd_q2 (p i))), some (.int (nI i)), some (.int (gd_b bl)), some (.int (gd_b bs)), o11, o12] [.int (nI x)] (pj_up h (f0 + 1) (.inl (0, 7, .inl f))) n' 0 0 (gd_sc (if j = 0 then gd_q1 (-1000000) (p 4) else gd_q2 (p 4)) h f0 n') := by
          intro x hx
          refine pj_ild10 (q := 65) (pj_d p_X3_bestTest 36 rfl) rfl ?_
          refine pj_if_eq (t := 73) (q := 68) (pj_d p_X3_bestTest 37 rfl) rfl (by decide) (fun c8 => ?_) (fun c8 => ?_)
          · have hb := (gd_b_z _).mp c8
            have h2 : ¬ 2 ≤ i := of_decide_eq_false (hbs.symm.trans hb)
            refine pj_iconst (q := 74) (v := nI 0) (pj_d p_X3_bestTest 40 rfl) rfl (by decide) ?_
            refine pj_iadd (q := 75) (pj_d p_X3_bestTest 41 rfl) rfl ?_
            rw [nI_add]
            exact tl _ (by rw [gd_cs, hx, show i / 2 = 0 by omega]; simp)
          · have hb := (gd_b_n _).mp c8
            have h2 : 2 ≤ i := of_decide_eq_true (hbs.symm.trans hb)
            refine pj_ild4 (q := 70) (pj_d p_X3_bestTest 38 rfl) rfl ?_
            refine pj_goto (t := 74) (pj_d p_X3_bestTest 39 rfl) (by decide) ?_
            refine pj_iadd (q := 75) (pj_d p_X3_bestTest 41 rfl) rfl ?_
            rw [nI_add]
            exact tl _ (by rw [gd_cs, hx, show i / 2 = 1 by omega]; simp)
        refine pj_ild9 (q := 55) (pj_d p_X3_bestTest 31 rfl) rfl ?_
        refine pj_if_eq (t := 62) (q := 58) (pj_d p_X3_bestTest 32 rfl) rfl (by decide) (fun c7 => ?_) (fun c7 => ?_)
        · have hb := (gd_b_z _).mp c7
          have h2 : ¬ i % 2 = 1 := of_decide_eq_false (hbl.symm.trans hb)
          refine pj_iconst (q := 63) (v := nI 0) (pj_d p_X3_bestTest 35 rfl) rfl (by decide) ?_
          exact addb 0 (by rw [show i % 2 = 0 by omega]; simp)
        · have hb := (gd_b_n _).mp c7
          have h2 : i % 2 = 1 := of_decide_eq_true (hbl.symm.trans hb)
          refine pj_ild3 (q := 59) (pj_d p_X3_bestTest 33 rfl) rfl ?_
          refine pj_goto (t := 63) (pj_d p_X3_bestTest 34 rfl) (by decide) ?_
          exact addb lo (by rw [h2]; simp)
      have second : ∀ bl : Bool, bl = decide (i % 2 = 1) → pj_V E B l Y_X3_bestTest 5 0 0 37 [some (.ref f0), some (.ref k), some (.int (nI d)), some (.int (nI lo)), some (.int (nI sh)), some (.int (nI j)), some (.int (gd_q1 (-1) (p i))), some (.int (gd_q2 (p i))), some (.int (nI i)), o9, o10, o11, o12] [.int (gd_b bl)] (pj_up h (f0 + 1) (.inl (0, 7, .inl f))) n' 0 0 (gd_sc (if j = 0 then gd_q1 (-1000000) (p 4) else gd_q2 (p 4)) h f0 n') := by
        intro bl hbl
        refine pj_ist9 (q := 39) (pj_d p_X3_bestTest 22 rfl) rfl (by first | rfl | assumption) ?_
        refine pj_ild8 (q := 41) (pj_d p_X3_bestTest 23 rfl) rfl ?_
        refine pj_iconst (q := 42) (v := nI 2) (pj_d p_X3_bestTest 24 rfl) rfl (by decide) ?_
        refine pj_iand (q := 43) (pj_d p_X3_bestTest 25 rfl) rfl ?_
        refine pj_if_eq (t := 50) (q := 46) (pj_d p_X3_bestTest 26 rfl) rfl (by decide) (fun c7 => ?_) (fun c7 => ?_)
        · have := (gd_w3 i hlt).mp c7
          refine pj_iconst (q := 51) (v := nI 0) (pj_d p_X3_bestTest 29 rfl) rfl (by decide) ?_
          refine pj_ist10 (q := 53) (pj_d p_X3_bestTest 30 rfl) rfl (by first | rfl | assumption) ?_
          exact rest bl false hbl (decide_eq_false this).symm
        · have : 2 ≤ i := Classical.byContradiction fun q => c7 ((gd_w3 i hlt).mpr q)
          refine pj_iconst (q := 47) (v := nI 1) (pj_d p_X3_bestTest 27 rfl) rfl (by decide) ?_
          refine pj_goto (t := 51) (pj_d p_X3_bestTest 28 rfl) (by decide) ?_
          refine pj_ist10 (q := 53) (pj_d p_X3_bestTest 30 rfl) rfl (by first | rfl | assumption) ?_
          exact rest bl true hbl (decide_eq_true this).symm
      refine pj_ild8 (q := 27) (pj_d p_X3_bestTest 15 rfl) rfl ?_
      refine pj_iconst (q := 28) (v := nI 1) (pj_d p_X3_bestTest 16 rfl) rfl (by decide) ?_
      refine pj_iand (q := 29) (pj_d p_X3_bestTest 17 rfl) rfl ?_
      refine pj_if_eq (t := 36) (q := 32) (pj_d p_X3_bestTest 18 rfl) rfl (by decide) (fun c7 => ?_) (fun c7 => ?_)
      · have := (gd_w4 i hlt).mp c7
        refine pj_iconst (q := 37) (v := nI 0) (pj_d p_X3_bestTest 21 rfl) rfl (by decide) ?_
        exact second false (decide_eq_false this).symm
      · have : i % 2 = 1 := Classical.byContradiction fun q => c7 ((gd_w4 i hlt).mpr q)
        refine pj_iconst (q := 33) (v := nI 1) (pj_d p_X3_bestTest 19 rfl) rfl (by decide) ?_
        refine pj_goto (t := 37) (pj_d p_X3_bestTest 20 rfl) (by decide) ?_
        exact second true (decide_eq_true this).symm
  subst hp
  exact loop 5 0 none none none none rfl rfl rfl rfl (by omega) (by omega)
end
section
variable {E : pj_E} {B : Nat} {l : Launch} {h : pj_H} {n b ac : Nat} {po : Option Nat} {lf st : Int32} {τ : Nat → Nat}
theorem c_X11_tests (hX : gd_XR h b po lf st τ ac) (d lo sh w : Int32) : pj_Ct E B l Y_X11_tests 6 0 0 [.ref b, .int d, .int lo, .int sh, .int w] h n (gd_sc (sp_tests τ d lo sh w) h (b + 15) n) := by
  obtain ⟨hx, hF, hW, hp⟩ := hX
  have h7 := hW.1
  have F0 := hF.1
  refine pj_in rfl (ls := [some (.ref b), some (.int (d)), some (.int (lo)), some (.int (sh)), some (.int (w))]) rfl (Nat.le_of_ble_eq_true rfl) ?_
  cases po with
  | none =>
    obtain ⟨p0, p1⟩ := hp
    have hx : h b = some (.inr (10, [.ref (b + 1), .ref (b + 13), .ref (b + 15), .ref (b + 19), .ref (b + 21), .null, .int lf, .int st])) := hx
    refine pj_ald0 (q := 1) (pj_d p_X11_tests 0 rfl) rfl ?_
    refine pj_gf (q := 4) (k := 5) (pj_d p_X11_tests 1 rfl) rfl kX11_102 (by assumption) (by rfl) (by rfl) ?_
    refine pj_ifnonnullN (q := 7) (pj_d p_X11_tests 2 rfl) rfl ?_
    refine pj_ldc (q := 9) (pj_d p_X11_tests 3 rfl) rfl kX11_112 ?_
    refine pj_iret rfl (pj_d p_X11_tests 4 rfl) (by decide) (by decide) ?_
    exact gd_sc_same hF (by simp [sp_tests, p0])
  | some k =>
    obtain ⟨hk, p0, hT⟩ := hp
    have hx : h b = some (.inr (10, [.ref (b + 1), .ref (b + 13), .ref (b + 15), .ref (b + 19), .ref (b + 21), .ref k, .int lf, .int st])) := hx
    have t0 := hT.1
    refine pj_ald0 (q := 1) (pj_d p_X11_tests 0 rfl) rfl ?_
    refine pj_gf (q := 4) (k := 5) (pj_d p_X11_tests 1 rfl) rfl kX11_102 (by assumption) (by rfl) (by rfl) ?_
    refine pj_ifnonnull (t := 10) (pj_d p_X11_tests 2 rfl) (by decide) ?_
    have bad : (gd_rng d 0 100 && gd_rng lo 0 20 && gd_rng sh 0 20 && gd_rng w 0 1) = false → pj_V E B l Y_X11_tests 6 0 0 39 [some (.ref b), some (.int (d)), some (.int (lo)), some (.int (sh)), some (.int (w))] [] h n 0 0 (gd_sc (sp_tests τ d lo sh w) h (b + 15) n) := by
      intro hx
      refine pj_ldc (q := 41) (pj_d p_X11_tests 17 rfl) rfl kX11_47 ?_
      refine pj_iret rfl (pj_d p_X11_tests 18 rfl) (by decide) (by decide) ?_
      exact gd_sc_same hF (by rw [sp_tests, if_pos p0, hx]; rfl)
    refine pj_ild1 (q := 11) (pj_d p_X11_tests 5 rfl) rfl ?_
    refine pj_cp (pj_rS (q := 14) (c_X11_isAhead d) (pj_d p_X11_tests 6 rfl) rfl kX11_174 o_X11_isAhead (by rfl) (by rfl) (Nat.le_of_ble_eq_true rfl) (by decide)) (by decide) (by decide) ?_
    refine pj_if_eq (t := 39) (q := 17) (pj_d p_X11_tests 7 rfl) rfl (by decide) (fun c2 => ?_) (fun c2 => ?_)
    · exact bad (by rw [(gd_b_z _).mp c2]; rfl)
    refine pj_ild2 (q := 18) (pj_d p_X11_tests 8 rfl) rfl ?_
    refine pj_cp (pj_rS (q := 21) (c_X11_isCost lo) (pj_d p_X11_tests 9 rfl) rfl kX11_236 o_X11_isCost (by rfl) (by rfl) (Nat.le_of_ble_eq_true rfl) (by decide)) (by decide) (by decide) ?_
    refine pj_if_eq (t := 39) (q := 24) (pj_d p_X11_tests 10 rfl) rfl (by decide) (fun c3 => ?_) (fun c3 => ?_)
    · exact bad (by rw [(gd_b_z _).mp c3]; simp)
    refine pj_ild3 (q := 25) (pj_d p_X11_tests 11 rfl) rfl ?_
    refine pj_cp (pj_rS (q := 28) (c_X11_isCost sh) (pj_d p_X11_tests 12 rfl) rfl kX11_236 o_X11_isCost (by rfl) (by rfl) (Nat.le_of_ble_eq_true rfl) (by decide)) (by decide) (by decide) ?_
    refine pj_if_eq (t := 39) (q := 31) (pj_d p_X11_tests 13 rfl) rfl (by decide) (fun c4 => ?_) (fun c4 => ?_)
    · exact bad (by rw [(gd_b_z _).mp c4]; simp)
    refine pj_ild4 (q := 33) (pj_d p_X11_tests 14 rfl) rfl ?_
    refine pj_cp (pj_rS (q := 36) (c_X11_isChoice w) (pj_d p_X11_tests 15 rfl) rfl kX11_195 o_X11_isChoice (by rfl) (by rfl) (Nat.le_of_ble_eq_true rfl) (by decide)) (by decide) (by decide) ?_
    refine pj_if_ne (t := 42) (q := 39) (pj_d p_X11_tests 16 rfl) rfl (by decide) (fun c5 => ?_) (fun c5 => ?_)
    · have e1 := (gd_b_n _).mp c2
      have e2 := (gd_b_n _).mp c3
      have e3 := (gd_b_n _).mp c4
      have e4 := (gd_b_n _).mp c5
      obtain ⟨d', hd, rfl, hdc⟩ := gd_rng_of (hi := 100) e1
      obtain ⟨lo', hl, rfl, hlc⟩ := gd_rng_of (hi := 20) e2
      obtain ⟨sh', hs, rfl, hsc⟩ := gd_rng_of (hi := 20) e3
      obtain ⟨j, hj, rfl, hjc⟩ := gd_rng_of (hi := 1) e4
      have hji : (nI j).toInt = (j : Int) := nI_toInt (by omega)
      refine pj_ald0 (q := 43) (pj_d p_X11_tests 19 rfl) rfl ?_
      refine pj_gf (q := 46) (k := 2) (pj_d p_X11_tests 20 rfl) rfl kX11_26 (by assumption) (by rfl) (by rfl) ?_
      refine pj_ald0 (q := 47) (pj_d p_X11_tests 21 rfl) rfl ?_
      refine pj_gf (q := 50) (k := 5) (pj_d p_X11_tests 22 rfl) rfl kX11_102 (by assumption) (by rfl) (by rfl) ?_
      refine pj_ild1 (q := 51) (pj_d p_X11_tests 23 rfl) rfl ?_
      refine pj_ild2 (q := 52) (pj_d p_X11_tests 24 rfl) rfl ?_
      refine pj_ild3 (q := 53) (pj_d p_X11_tests 25 rfl) rfl ?_
      refine pj_ild4 (q := 55) (pj_d p_X11_tests 26 rfl) rfl ?_
      refine pj_cv (pj_rV (q := 58) (c_X3_bestTest hF hT hW (by omega) hd hl hs hj) (pj_d p_X11_tests 27 rfl) rfl kX11_239 o_X3_bestTest (by assumption) (by rfl) (by rfl) (by rfl) (by rfl) (Nat.le_of_ble_eq_true rfl) (by decide)) (by decide) (by decide) ?_
      rintro r h' n' ⟨rfl, rfl, f, rfl⟩
      refine pj_iret rfl (pj_d p_X11_tests 28 rfl) (by decide) (by decide) ?_
      refine ⟨?_, rfl, f, rfl⟩
      rw [sp_tests, if_pos p0, e1, e2, e3, e4, hdc, hlc, hsc, hji]
      simp
    · exact bad (by rw [(gd_b_z _).mp c5]; simp)
end
