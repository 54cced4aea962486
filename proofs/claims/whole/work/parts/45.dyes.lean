/-! ===== dyes: mixes that are told apart; the first row of them ===== -/
def gd_apN (τ : Nat → Nat) (a b : Nat) : Nat → Bool
  | 0 => true
  | w + 1 => gd_apN τ a b w && decide (gd_left a (gd_setOf (τ (4 + w))) ≠ gd_left b (gd_setOf (τ (4 + w))))
def gd_ap (τ : Nat → Nat) (a b : Nat) : Bool := gd_apN τ a b 7
theorem gd_apN_f {τ : Nat → Nat} {a b i : Nat} : ∀ {j : Nat}, i ≤ j → gd_apN τ a b i = false → gd_apN τ a b j = false
  | 0, h, e => by rw [show i = 0 by omega] at e; exact e
  | j + 1, h, e => by
    by_cases q : i = j + 1
    · rw [← q]; exact e
    · rw [gd_apN, gd_apN_f (by omega) e, Bool.false_and]
def gd_apr (τ r : Nat → Nat) (m : Nat) : Nat → Bool
  | 0 => true
  | i + 1 => gd_apr τ r m i && gd_ap τ (r i) m
theorem gd_apr_f {τ r : Nat → Nat} {m i : Nat} : ∀ {j : Nat}, i ≤ j → gd_apr τ r m i = false → gd_apr τ r m j = false
  | 0, h, e => by rw [show i = 0 by omega] at e; exact e
  | j + 1, h, e => by
    by_cases q : i = j + 1
    · rw [← q]; exact e
    · rw [gd_apr, gd_apr_f (by omega) e, Bool.false_and]
def gd_lst (p : Nat) (r : Nat → Nat) : Nat := if p = 0 then 0 else r (p - 1)
def gd_try (τ : Nat → Nat) (F : (Nat → Nat) → Option (Nat → Nat)) (p : Nat) (r : Nat → Nat) : Nat → Nat → Option (Nat → Nat)
  | 0, _ => none
  | u + 1, m => if gd_apr τ r m p = true then (match F (gd_set r p m) with | some q => some q | none => gd_try τ F p r u (m + 1)) else gd_try τ F p r u (m + 1)
def gd_fil (τ : Nat → Nat) : Nat → Nat → (Nat → Nat) → Option (Nat → Nat)
  | 0, _, r => some r
  | k + 1, p, r => gd_try τ (gd_fil τ k (p + 1)) p r (31 - gd_lst p r) (gd_lst p r + 1)
theorem gd_try_no {τ : Nat → Nat} {F : (Nat → Nat) → Option (Nat → Nat)} {p : Nat} {r : Nat → Nat} {u m : Nat} (h : gd_apr τ r m p = false) : gd_try τ F p r (u + 1) m = gd_try τ F p r u (m + 1) := by
  rw [gd_try, h, if_neg (by decide)]
theorem gd_try_yes {τ : Nat → Nat} {F : (Nat → Nat) → Option (Nat → Nat)} {p : Nat} {r q : Nat → Nat} {u m : Nat} (h : gd_apr τ r m p = true) (e : F (gd_set r p m) = some q) : gd_try τ F p r (u + 1) m = some q := by
  rw [gd_try, if_pos h, e]
theorem gd_try_on {τ : Nat → Nat} {F : (Nat → Nat) → Option (Nat → Nat)} {p : Nat} {r : Nat → Nat} {u m : Nat} (h : gd_apr τ r m p = true) (e : F (gd_set r p m) = none) : gd_try τ F p r (u + 1) m = gd_try τ F p r u (m + 1) := by
  rw [gd_try, if_pos h, e]
theorem gd_upd_s {f : Nat → Int32} {k : Nat} {x : Int32} : upd f k x k = x := if_pos rfl
theorem gd_upd_n {f : Nat → Int32} {k j : Nat} {x : Int32} (h : j ≠ k) : upd f k x j = f j := if_neg h
def gd_dpe (τ : Nat → Nat) (i j : Nat) : Nat := if gd_ap τ (i + 1) (i + 2 + j) = true then 1 else 0
def gd_dpc (τ : Nat → Nat) (i : Nat) : Nat := gd_sm (gd_dpe τ i) (30 - i)
def gd_dp (τ : Nat → Nat) : Nat := gd_sm (gd_dpc τ) 31
def gd_dk (τ : Nat → Nat) (N k : Nat) : Int32 := match gd_fil τ N 0 (fun _ => 0) with
  | some q => nI (q k)
  | none => -1000000
def sp_dyes (τ : Nat → Nat) (x y : Int32) : Int32 := if τ 0 = 1 then (if gd_rng x 1 6 = true ∧ gd_rng y (-1) (x.toInt - 1) = true then (if y.toInt < 0 then nI (gd_dp τ) else gd_dk τ x.toNatClampNeg y.toNatClampNeg) else -1000001) else -1000002
/-- an answer, and only one row of so many ints changes -/
def gd_sr (v : Int32) (h : pj_H) (a N n : Nat) : Option Value → pj_H → Nat → Prop := fun r h' n' => r = some (.int v) ∧ n' = n ∧ ∃ f, h' = pj_up h a (.inl (0, N, .inl f))
theorem gd_sr_same {h : pj_H} {a N n : Nat} {f : Nat → Int32} {x v : Int32} (hF : h a = some (.inl (0, N, .inl f))) (hx : x = v) : gd_sr v h a N n (some (.int x)) h n := ⟨by rw [hx], rfl, f, (pj_up_id hF).symm⟩
theorem gd_m1 (p : Nat) : nI (p + 1) + (-1) = nI p := by
  rw [← nI_add, Int32.add_assoc, show nI 1 + (-1) = 0 by decide, Int32.add_zero]
section
variable {E : pj_E} {B : Nat} {l : Launch} {h : pj_H} {n b k ac g f0 : Nat} {po : Option Nat} {lf st : Int32} {τ : Nat → Nat} {v : Nat → Int32}
theorem c_X3_areApart (hT : gd_T h k τ ac) (hW : gd_W τ) {a b : Nat} (ha : a < 32) (hb : b < 32) : pj_Ct E B l Y_X3_areApart 3 0 0 [.ref k, .int (nI a), .int (nI b)] h n (pj_is (some (.int (gd_b (gd_ap τ a b)))) h n) := by
  have t0 := hT.1
  refine pj_in rfl (ls := [some (.ref k), some (.int (nI a)), some (.int (nI b)), none, none]) rfl (Nat.le_of_ble_eq_true rfl) ?_
  refine pj_iconst (q := 1) (v := nI 0) (pj_d p_X3_areApart 0 rfl) rfl (by decide) ?_
  refine pj_ist3 (q := 2) (pj_d p_X3_areApart 1 rfl) rfl (by first | rfl | assumption) ?_
  have loop : ∀ m w o4, gd_apN τ a b w = true → 7 - w < m → w ≤ 7 → pj_V E B l Y_X3_areApart 3 0 0 2 [some (.ref k), some (.int (nI a)), some (.int (nI b)), some (.int (nI w)), o4] [] h n 0 0 (pj_is (some (.int (gd_b (gd_ap τ a b)))) h n) := by
    intro m
    induction m with
    | zero => intro w o4 _ hi; omega
    | succ m ih =>
      intro w o4 hw hi hle
      refine pj_ild3 (q := 3) (pj_d p_X3_areApart 2 rfl) rfl ?_
      refine pj_bipush (q := 5) (v := nI 7) (pj_d p_X3_areApart 3 rfl) rfl (by decide) ?_
      refine pj_icmp_ge (t := 38) (q := 8) (pj_d p_X3_areApart 4 rfl) rfl (by decide) (fun c1 => ?_) (fun c1 => ?_)
      · have he : w = 7 := by have := gd_ge c1 (by omega) (by omega); omega
        subst he
        rw [show gd_ap τ a b = true from hw]
        refine pj_iconst (q := 39) (v := nI 1) (pj_d p_X3_areApart 24 rfl) rfl (by decide) ?_
        refine pj_zret rfl (by first | rfl | decide | (split <;> rfl)) (pj_d p_X3_areApart 25 rfl) (by decide) (by decide) ?_
        exact ⟨rfl, rfl, rfl⟩
      have hlt : w < 7 := gd_lt c1 (by omega)
      have hst : gd_setOf (τ (4 + w)) < 32 := gd_setOf_lt _ (hW.2.2.2.1 w hlt)
      refine pj_ald0 (q := 9) (pj_d p_X3_areApart 5 rfl) rfl ?_
      refine pj_ild3 (q := 10) (pj_d p_X3_areApart 6 rfl) rfl ?_
      refine pj_cp (pj_rV (q := 13) (c_X9_missingOn hT hW hlt) (pj_d p_X3_areApart 7 rfl) rfl kX3_74 o_X9_missingOn (by first | assumption | exact pj_up_s | exact (pj_up_n (by omega)).trans (by assumption)) (by rfl) (by rfl) (by rfl) (by rfl) (Nat.le_of_ble_eq_true rfl) (by decide)) (by decide) (by decide) ?_
      refine pj_ist4 (q := 15) (pj_d p_X3_areApart 8 rfl) rfl (by first | rfl | assumption) ?_
      refine pj_ild1 (q := 16) (pj_d p_X3_areApart 9 rfl) rfl ?_
      refine pj_ild4 (q := 18) (pj_d p_X3_areApart 10 rfl) rfl ?_
      refine pj_iconst (q := 19) (v := (-1)) (pj_d p_X3_areApart 11 rfl) rfl (by decide) ?_
      refine pj_ixor (q := 20) (pj_d p_X3_areApart 12 rfl) rfl ?_
      refine pj_iand (q := 21) (pj_d p_X3_areApart 13 rfl) rfl ?_
      rw [gd_leftI a ha _ hst]
      refine pj_ild2 (q := 22) (pj_d p_X3_areApart 14 rfl) rfl ?_
      refine pj_ild4 (q := 24) (pj_d p_X3_areApart 15 rfl) rfl ?_
      refine pj_iconst (q := 25) (v := (-1)) (pj_d p_X3_areApart 16 rfl) rfl (by decide) ?_
      refine pj_ixor (q := 26) (pj_d p_X3_areApart 17 rfl) rfl ?_
      refine pj_iand (q := 27) (pj_d p_X3_areApart 18 rfl) rfl ?_
      rw [gd_leftI b hb _ hst]
      have la := gd_left_lt a ha _ hst
      have lb := gd_left_lt b hb _ hst
      refine pj_icmp_ne (t := 32) (q := 30) (pj_d p_X3_areApart 19 rfl) rfl (by decide) (fun c2 => ?_) (fun c2 => ?_)
      · have hne : gd_left a (gd_setOf (τ (4 + w))) ≠ gd_left b (gd_setOf (τ (4 + w))) := fun q => c2 (by rw [q])
        refine pj_iinc3 (q := 35) (v := 1) (pj_d p_X3_areApart 22 rfl) rfl (by first | rfl | assumption) (by decide) ?_
        refine pj_goto (t := 2) (pj_d p_X3_areApart 23 rfl) (by decide) ?_
        rw [nI_1]
        exact ih (w + 1) _ (by rw [gd_apN, hw, decide_eq_true hne]; rfl) (by omega) (by omega)
      · have heq := (nI_eq (by omega) (by omega)).mp c2
        have e : gd_ap τ a b = false := gd_apN_f (i := w + 1) (by omega) (by rw [gd_apN, decide_eq_false (fun q => q heq), Bool.and_false])
        rw [e]
        refine pj_iconst (q := 31) (v := nI 0) (pj_d p_X3_areApart 20 rfl) rfl (by decide) ?_
        refine pj_zret rfl (by first | rfl | decide | (split <;> rfl)) (pj_d p_X3_areApart 21 rfl) (by decide) (by decide) ?_
        exact ⟨rfl, rfl, rfl⟩
  exact loop 8 0 none rfl (by omega) (by omega)
theorem c_X3_isApartFromRow {f : Nat → Int32} {r : Nat → Nat} {m p : Nat} (F0 : h f0 = some (.inr (3, [.ref (f0 + 1), .ref (f0 + 2), .ref (f0 + 3)]))) (F2 : h (f0 + 2) = some (.inl (0, 6, .inl f))) (hT : gd_T h k τ ac) (hW : gd_W τ) (hm : m < 32) (hp : p ≤ 6) (hr : ∀ i, i < p → f i = nI (r i) ∧ r i < 32) : pj_Ct E B l Y_X3_isApartFromRow 4 0 0 [.ref f0, .ref k, .int (nI m), .int (nI p)] h n (pj_is (some (.int (gd_b (gd_apr τ r m p)))) h n) := by
  refine pj_in rfl (ls := [some (.ref f0), some (.ref k), some (.int (nI m)), some (.int (nI p)), none]) rfl (Nat.le_of_ble_eq_true rfl) ?_
  refine pj_iconst (q := 1) (v := nI 0) (pj_d p_X3_isApartFromRow 0 rfl) rfl (by decide) ?_
  refine pj_ist4 (q := 3) (pj_d p_X3_isApartFromRow 1 rfl) rfl (by first | rfl | assumption) ?_
  have loop : ∀ m2 i, gd_apr τ r m i = true → p - i < m2 → i ≤ p → pj_V E B l Y_X3_isApartFromRow 4 0 0 3 [some (.ref f0), some (.ref k), some (.int (nI m)), some (.int (nI p)), some (.int (nI i))] [] h n 0 0 (pj_is (some (.int (gd_b (gd_apr τ r m p)))) h n) := by
    intro m2
    induction m2 with
    | zero => intro i _ hi; omega
    | succ m2 ih =>
      intro i hw hi hle
      refine pj_ild4 (q := 5) (pj_d p_X3_isApartFromRow 2 rfl) rfl ?_
      refine pj_ild3 (q := 6) (pj_d p_X3_isApartFromRow 3 rfl) rfl ?_
      refine pj_icmp_ge (t := 39) (q := 9) (pj_d p_X3_isApartFromRow 4 rfl) rfl (by decide) (fun c1 => ?_) (fun c1 => ?_)
      · have he : i = p := by have := gd_ge c1 (by omega) (by omega); omega
        rw [he] at hw
        rw [hw]
        refine pj_iconst (q := 40) (v := nI 1) (pj_d p_X3_isApartFromRow 20 rfl) rfl (by decide) ?_
        refine pj_zret rfl (by first | rfl | decide | (split <;> rfl)) (pj_d p_X3_isApartFromRow 21 rfl) (by decide) (by decide) ?_
        exact ⟨rfl, rfl, rfl⟩
      have hlt : i < p := gd_lt c1 (by omega)
      have h6 : i < 6 := by omega
      refine pj_ild4 (q := 11) (pj_d p_X3_isApartFromRow 5 rfl) rfl ?_
      refine pj_bipush (q := 13) (v := nI 6) (pj_d p_X3_isApartFromRow 6 rfl) rfl (by decide) ?_
      refine pj_icmp_ge (t := 39) (q := 16) (pj_d p_X3_isApartFromRow 7 rfl) rfl (by decide) (fun c2 => ?_) (fun c2 => ?_)
      · exact absurd (gd_ge c2 (by omega) (by omega)) (by omega)
      refine pj_ald1 (q := 17) (pj_d p_X3_isApartFromRow 8 rfl) rfl ?_
      refine pj_ald0 (q := 18) (pj_d p_X3_isApartFromRow 9 rfl) rfl ?_
      refine pj_gf (q := 21) (k := 1) (pj_d p_X3_isApartFromRow 10 rfl) rfl kX3_17 (by first | assumption | exact pj_up_s | exact (pj_up_n (by omega)).trans (by assumption)) (by rfl) (by rfl) ?_
      refine pj_ild4 (q := 23) (pj_d p_X3_isApartFromRow 11 rfl) rfl ?_
      refine pj_ialdN (q := 24) (pj_d p_X3_isApartFromRow 12 rfl) rfl (by first | assumption | exact pj_up_s | exact (pj_up_n (by omega)).trans (by assumption)) (by rfl) (by first | assumption | omega) (Nat.le_of_ble_eq_true rfl) ?_
      rw [(hr i hlt).1]
      refine pj_ild2 (q := 25) (pj_d p_X3_isApartFromRow 13 rfl) rfl ?_
      refine pj_cp (pj_rS (q := 28) (c_X3_areApart hT hW (hr i hlt).2 hm) (pj_d p_X3_isApartFromRow 14 rfl) rfl kX3_80 o_X3_areApart (by rfl) (by rfl) (Nat.le_of_ble_eq_true rfl) (by decide)) (by decide) (by decide) ?_
      refine pj_if_ne (t := 33) (q := 31) (pj_d p_X3_isApartFromRow 15 rfl) rfl (by decide) (fun c3 => ?_) (fun c3 => ?_)
      · have e := (gd_b_n _).mp c3
        refine pj_iinc4 (q := 36) (v := 1) (pj_d p_X3_isApartFromRow 18 rfl) rfl (by first | rfl | assumption) (by decide) ?_
        refine pj_goto (t := 3) (pj_d p_X3_isApartFromRow 19 rfl) (by decide) ?_
        rw [nI_1]
        exact ih (i + 1) (by rw [gd_apr, hw, e]; rfl) (by omega) (by omega)
      · have e := (gd_b_z _).mp c3
        rw [show gd_apr τ r m p = false from gd_apr_f (i := i + 1) (by omega) (by rw [gd_apr, e, Bool.and_false])]
        refine pj_iconst (q := 32) (v := nI 0) (pj_d p_X3_isApartFromRow 16 rfl) rfl (by decide) ?_
        refine pj_zret rfl (by first | rfl | decide | (split <;> rfl)) (pj_d p_X3_isApartFromRow 17 rfl) (by decide) (by decide) ?_
        exact ⟨rfl, rfl, rfl⟩
  exact loop (p + 1) 0 rfl (by omega) (by omega)
theorem c_X3_fillDyes {N : Nat} (hN : N ≤ 6) (hfk : f0 + 3 < k) (hW : gd_W τ) : ∀ (u p : Nat) (r : Nat → Nat) (f : Nat → Int32) (h : pj_H), p + u = N → h f0 = some (.inr (3, [.ref (f0 + 1), .ref (f0 + 2), .ref (f0 + 3)])) → h (f0 + 2) = some (.inl (0, 6, .inl f)) → gd_T h k τ ac → (∀ i, i < p → f i = nI (r i) ∧ r i < 32) → pj_Ct E B l Y_X3_fillDyes (4 + 1 + u) 0 0 [.ref f0, .ref k, .int (nI N), .int (nI p)] h n (fun r1 h' n' => r1 = some (.int (gd_b (gd_fil τ u p r).isSome)) ∧ n' = n ∧ ∃ f', h' = pj_up h (f0 + 2) (.inl (0, 6, .inl f')) ∧ (∀ i, i < p → f' i = f i) ∧ ∀ q, gd_fil τ u p r = some q → ∀ i, i < N → f' i = nI (q i)) := by
  intro u
  induction u with
  | zero =>
    intro p r f h hp F0 F2 hT hr
    have e : p = N := by omega
    refine pj_in rfl (ls := [some (.ref f0), some (.ref k), some (.int (nI N)), some (.int (nI p)), none, none]) rfl (Nat.le_of_ble_eq_true rfl) ?_
    refine pj_ild3 (q := 1) (pj_d p_X3_fillDyes 0 rfl) rfl ?_
    refine pj_ild2 (q := 2) (pj_d p_X3_fillDyes 1 rfl) rfl ?_
    refine pj_icmp_ge (t := 11) (q := 5) (pj_d p_X3_fillDyes 2 rfl) rfl (by decide) (fun c1 => ?_) (fun c1 => ?_)
    · refine pj_iconst (q := 12) (v := nI 1) (pj_d p_X3_fillDyes 6 rfl) rfl (by decide) ?_
      refine pj_zret rfl (by first | rfl | decide | (split <;> rfl)) (pj_d p_X3_fillDyes 7 rfl) (by decide) (by decide) ?_
      exact ⟨rfl, rfl, f, (pj_up_id F2).symm, fun _ _ => rfl, fun q hq i hi => by cases hq; exact (hr i (by omega)).1⟩
    · exact absurd (gd_lt c1 (by omega)) (by omega)
  | succ u ih =>
    intro p r f h hp F0 F2 hT hr
    have p6 : p < 6 := by omega
    refine pj_in rfl (ls := [some (.ref f0), some (.ref k), some (.int (nI N)), some (.int (nI p)), none, none]) rfl (Nat.le_of_ble_eq_true rfl) ?_
    refine pj_ild3 (q := 1) (pj_d p_X3_fillDyes 0 rfl) rfl ?_
    refine pj_ild2 (q := 2) (pj_d p_X3_fillDyes 1 rfl) rfl ?_
    refine pj_icmp_ge (t := 11) (q := 5) (pj_d p_X3_fillDyes 2 rfl) rfl (by decide) (fun c1 => ?_) (fun c1 => ?_)
    · exact absurd (gd_ge c1 (by omega) (by omega)) (by omega)
    refine pj_ild3 (q := 6) (pj_d p_X3_fillDyes 3 rfl) rfl ?_
    refine pj_bipush (q := 8) (v := nI 6) (pj_d p_X3_fillDyes 4 rfl) rfl (by decide) ?_
    refine pj_icmp_lt (t := 13) (q := 11) (pj_d p_X3_fillDyes 5 rfl) rfl (by decide) (fun c2 => ?_) (fun c2 => ?_)
    rotate_left
    · exact absurd (nI_lt p6 (by omega)) c2
    have lb : gd_lst p r < 32 := by
      rw [gd_lst]
      split
      · omega
      · exact (hr (p - 1) (by omega)).2
    have loop : ∀ fu m f' (o4 : Option Value), pj_c1 o4 = true → fu + m = 32 → 1 ≤ m → (∀ i, i < p → f' i = f i) → gd_try τ (gd_fil τ u (p + 1)) p r fu m = gd_fil τ (u + 1) p r → pj_V E B l Y_X3_fillDyes (4 + 1 + (u + 1)) 0 0 37 [some (.ref f0), some (.ref k), some (.int (nI N)), some (.int (nI p)), o4, some (.int (nI m))] [] (pj_up h (f0 + 2) (.inl (0, 6, .inl f'))) n 0 0 (fun r1 h' n' => r1 = some (.int (gd_b (gd_fil τ (u + 1) p r).isSome)) ∧ n' = n ∧ ∃ f', h' = pj_up h (f0 + 2) (.inl (0, 6, .inl f')) ∧ (∀ i, i < p → f' i = f i) ∧ ∀ q, gd_fil τ (u + 1) p r = some q → ∀ i, i < N → f' i = nI (q i)) := by
      intro fu
      induction fu with
      | zero =>
        intro m f' o4 k4 hm h1 hf ht
        have m32 : m = 32 := by omega
        refine pj_ild5 (q := 39) (pj_d p_X3_fillDyes 23 rfl) rfl ?_
        refine pj_bipush (q := 41) (v := nI 31) (pj_d p_X3_fillDyes 24 rfl) rfl (by decide) ?_
        refine pj_icmp_gt (t := 83) (q := 44) (pj_d p_X3_fillDyes 25 rfl) rfl (by decide) (fun c3 => ?_) (fun c3 => ?_)
        · have e : gd_fil τ (u + 1) p r = none := ht.symm
          rw [e]
          refine pj_iconst (q := 84) (v := nI 0) (pj_d p_X3_fillDyes 49 rfl) rfl (by decide) ?_
          refine pj_zret rfl (by first | rfl | decide | (split <;> rfl)) (pj_d p_X3_fillDyes 50 rfl) (by decide) (by decide) ?_
          exact ⟨rfl, rfl, f', rfl, hf, fun q hq => by cases hq⟩
        · exact absurd (nI_lt (a := 31) (b := m) (by omega) (by omega)) c3
      | succ fu ih2 =>
        intro m f' o4 k4 hm h1 hf ht
        have m31 : m < 32 := by omega
        have hT1 : gd_T (pj_up h (f0 + 2) (.inl (0, 6, .inl f'))) k τ ac := hT.up (by omega)
        have F1 : pj_up h (f0 + 2) (.inl (0, 6, .inl f')) f0 = some (.inr (3, [.ref (f0 + 1), .ref (f0 + 2), .ref (f0 + 3)])) := (pj_up_n (by omega)).trans F0
        have F3 : pj_up h (f0 + 2) (.inl (0, 6, .inl f')) (f0 + 2) = some (.inl (0, 6, .inl f')) := pj_up_s
        refine pj_ild5 (q := 39) (pj_d p_X3_fillDyes 23 rfl) rfl ?_
        refine pj_bipush (q := 41) (v := nI 31) (pj_d p_X3_fillDyes 24 rfl) rfl (by decide) ?_
        refine pj_icmp_gt (t := 83) (q := 44) (pj_d p_X3_fillDyes 25 rfl) rfl (by decide) (fun c3 => ?_) (fun c3 => ?_)
        · exact absurd ((nI_ltI (by omega) (by omega)).mp c3) (by omega)
        refine pj_ald0 (q := 45) (pj_d p_X3_fillDyes 26 rfl) rfl ?_
        refine pj_ald1 (q := 46) (pj_d p_X3_fillDyes 27 rfl) rfl ?_
        refine pj_ild5 (q := 48) (pj_d p_X3_fillDyes 28 rfl) rfl ?_
        refine pj_ild3 (q := 49) (pj_d p_X3_fillDyes 29 rfl) rfl ?_
        refine pj_cp (pj_rV (q := 52) (c_X3_isApartFromRow (r := r) (p := p) F1 F3 hT1 hW m31 (by omega) (fun i hi => by rw [hf i hi]; exact hr i hi)) (pj_d p_X3_fillDyes 30 rfl) rfl kX3_87 o_X3_isApartFromRow (by first | assumption | exact pj_up_s | exact (pj_up_n (by omega)).trans (by assumption)) (by rfl) (by rfl) (by rfl) (by rfl) (Nat.le_of_ble_eq_true rfl) (by omega)) (by decide) (by decide) ?_
        refine pj_if_eq (t := 77) (q := 55) (pj_d p_X3_fillDyes 31 rfl) rfl (by decide) (fun c4 => ?_) (fun c4 => ?_)
        · have e := (gd_b_z _).mp c4
          refine pj_iinc5 (q := 80) (v := 1) (pj_d p_X3_fillDyes 47 rfl) rfl (by first | rfl | assumption) (by decide) ?_
          refine pj_goto (t := 37) (pj_d p_X3_fillDyes 48 rfl) (by decide) ?_
          rw [nI_1]
          exact ih2 (m + 1) f' o4 k4 (by omega) (by omega) hf ((gd_try_no e).symm.trans ht)
        have e := (gd_b_n _).mp c4
        refine pj_ald0 (q := 56) (pj_d p_X3_fillDyes 32 rfl) rfl ?_
        refine pj_gf (q := 59) (k := 1) (pj_d p_X3_fillDyes 33 rfl) rfl kX3_17 (by first | assumption | exact pj_up_s | exact (pj_up_n (by omega)).trans (by assumption)) (by rfl) (by rfl) ?_
        refine pj_ild3 (q := 60) (pj_d p_X3_fillDyes 34 rfl) rfl ?_
        refine pj_ild5 (q := 62) (pj_d p_X3_fillDyes 35 rfl) rfl ?_
        refine pj_iast (q := 63) (pj_d p_X3_fillDyes 36 rfl) rfl (by first | assumption | exact pj_up_s | exact (pj_up_n (by omega)).trans (by assumption)) (by rfl) (by first | assumption | omega) (Nat.le_of_ble_eq_true rfl) ?_
        rw [pj_up_up]
        have F4 : pj_up h (f0 + 2) (.inl (0, 6, .inl (upd f' p (nI m)))) f0 = some (.inr (3, [.ref (f0 + 1), .ref (f0 + 2), .ref (f0 + 3)])) := (pj_up_n (by omega)).trans F0
        have hT2 : gd_T (pj_up h (f0 + 2) (.inl (0, 6, .inl (upd f' p (nI m))))) k τ ac := hT.up (by omega)
        refine pj_ald0 (q := 64) (pj_d p_X3_fillDyes 37 rfl) rfl ?_
        refine pj_ald1 (q := 65) (pj_d p_X3_fillDyes 38 rfl) rfl ?_
        refine pj_ild2 (q := 66) (pj_d p_X3_fillDyes 39 rfl) rfl ?_
        refine pj_ild3 (q := 67) (pj_d p_X3_fillDyes 40 rfl) rfl ?_
        refine pj_iconst (q := 68) (v := nI 1) (pj_d p_X3_fillDyes 41 rfl) rfl (by decide) ?_
        refine pj_iadd (q := 69) (pj_d p_X3_fillDyes 42 rfl) rfl ?_
        rw [nI_add]
        have hr2 : ∀ i, i < p + 1 → upd f' p (nI m) i = nI (gd_set r p m i) ∧ gd_set r p m i < 32 := by
          intro i hi
          by_cases q : i = p
          · rw [q, gd_upd_s, gd_set_s]; exact ⟨rfl, m31⟩
          · rw [gd_upd_n q, gd_set_n q, hf i (by omega)]; exact hr i (by omega)
        refine pj_cv (pj_rV (q := 72) (ih (p + 1) (gd_set r p m) (upd f' p (nI m)) _ (by omega) F4 pj_up_s hT2 hr2) (pj_d p_X3_fillDyes 43 rfl) rfl kX3_84 o_X3_fillDyes (by first | assumption | exact pj_up_s | exact (pj_up_n (by omega)).trans (by assumption)) (by rfl) (by rfl) (by rfl) (by rfl) (Nat.le_of_ble_eq_true rfl) (by omega)) (by decide) (by decide) ?_
        rintro r1 h1 n1 ⟨rfl, rfl, f3, rfl, g1, g2⟩
        rw [pj_up_up]
        have hf3 : ∀ i, i < p → f3 i = f i := fun i hi => by rw [g1 i (by omega), gd_upd_n (by omega), hf i hi]
        refine pj_if_eq (t := 77) (q := 75) (pj_d p_X3_fillDyes 44 rfl) rfl (by decide) (fun c5 => ?_) (fun c5 => ?_)
        · have e2 : gd_fil τ u (p + 1) (gd_set r p m) = none := by
            cases e3 : gd_fil τ u (p + 1) (gd_set r p m) with
            | none => rfl
            | some q => rw [e3] at c5; exact absurd c5 (show ¬ gd_b true = 0 by decide)
          refine pj_iinc5 (q := 80) (v := 1) (pj_d p_X3_fillDyes 47 rfl) rfl (by first | rfl | assumption) (by decide) ?_
          refine pj_goto (t := 37) (pj_d p_X3_fillDyes 48 rfl) (by decide) ?_
          rw [nI_1]
          exact ih2 (m + 1) f3 o4 k4 (by omega) (by omega) hf3 ((gd_try_on e e2).symm.trans ht)
        · cases e3 : gd_fil τ u (p + 1) (gd_set r p m) with
          | none => rw [e3] at c5; exact absurd rfl c5
          | some q =>
            have e4 : gd_fil τ (u + 1) p r = some q := ht.symm.trans (gd_try_yes e e3)
            rw [e4]
            refine pj_iconst (q := 76) (v := nI 1) (pj_d p_X3_fillDyes 45 rfl) rfl (by decide) ?_
            refine pj_zret rfl (by first | rfl | decide | (split <;> rfl)) (pj_d p_X3_fillDyes 46 rfl) (by decide) (by decide) ?_
            exact ⟨rfl, rfl, f3, rfl, hf3, fun z hz => by cases hz; exact g2 q e3⟩
    have go := loop (31 - gd_lst p r) (gd_lst p r + 1) f (some (.int (nI (gd_lst p r + 1)))) rfl (by omega) (by omega) (fun _ _ => rfl) rfl
    rw [pj_up_id F2] at go
    refine pj_ild3 (q := 14) (pj_d p_X3_fillDyes 8 rfl) rfl ?_
    refine pj_if_ne (t := 21) (q := 17) (pj_d p_X3_fillDyes 9 rfl) rfl (by decide) (fun c3 => ?_) (fun c3 => ?_)
    · have p0 : ¬ p = 0 := fun q => c3 (by rw [q]; rfl)
      have p1 : p - 1 < 6 := by omega
      have e1 := (hr (p - 1) (by omega)).1
      rw [gd_lst, if_neg p0] at go
      refine pj_ald0 (q := 22) (pj_d p_X3_fillDyes 12 rfl) rfl ?_
      refine pj_gf (q := 25) (k := 1) (pj_d p_X3_fillDyes 13 rfl) rfl kX3_17 (by first | assumption | exact pj_up_s | exact (pj_up_n (by omega)).trans (by assumption)) (by rfl) (by rfl) ?_
      refine pj_ild3 (q := 26) (pj_d p_X3_fillDyes 14 rfl) rfl ?_
      refine pj_iconst (q := 27) (v := nI 1) (pj_d p_X3_fillDyes 15 rfl) rfl (by decide) ?_
      refine pj_isub (q := 28) (pj_d p_X3_fillDyes 16 rfl) rfl ?_
      rw [gd_sub (by omega)]
      refine pj_ialdN (q := 29) (pj_d p_X3_fillDyes 17 rfl) rfl (by first | assumption | exact pj_up_s | exact (pj_up_n (by omega)).trans (by assumption)) (by rfl) (by first | assumption | omega) (Nat.le_of_ble_eq_true rfl) ?_
      rw [e1]
      refine pj_iconst (q := 30) (v := nI 1) (pj_d p_X3_fillDyes 18 rfl) rfl (by decide) ?_
      refine pj_iadd (q := 31) (pj_d p_X3_fillDyes 19 rfl) rfl ?_
      rw [nI_add]
      refine pj_ist4 (q := 33) (pj_d p_X3_fillDyes 20 rfl) rfl (by first | rfl | assumption) ?_
      refine pj_ild4 (q := 35) (pj_d p_X3_fillDyes 21 rfl) rfl ?_
      refine pj_ist5 (q := 37) (pj_d p_X3_fillDyes 22 rfl) rfl (by first | rfl | assumption) ?_
      exact go
    · have p0 : p = 0 := (nI_eq (by omega) (by omega)).mp (c3.trans nI_0.symm)
      rw [gd_lst, if_pos p0] at go
      refine pj_iconst (q := 18) (v := nI 1) (pj_d p_X3_fillDyes 10 rfl) rfl (by decide) ?_
      refine pj_goto (t := 31) (pj_d p_X3_fillDyes 11 rfl) (by decide) ?_
      refine pj_ist4 (q := 33) (pj_d p_X3_fillDyes 20 rfl) rfl (by first | rfl | assumption) ?_
      refine pj_ild4 (q := 35) (pj_d p_X3_fillDyes 21 rfl) rfl ?_
      refine pj_ist5 (q := 37) (pj_d p_X3_fillDyes 22 rfl) rfl (by first | rfl | assumption) ?_
      exact go
theorem c_X3_dyeOfFirstRow (hF : gd_F h f0) (hT : gd_T h k τ ac) (hW : gd_W τ) (hfk : f0 + 3 < k) {N j : Nat} (hN : N ≤ 6) (hj : j < N) : pj_Ct E B l Y_X3_dyeOfFirstRow 14 0 0 [.ref f0, .ref k, .int (nI N), .int (nI j)] h n (gd_sr (gd_dk τ N j) h (f0 + 2) 6 n) := by
  obtain ⟨f, F2⟩ := hF.2.2.1
  have F0 := hF.1
  have j6 : j < 6 := by omega
  refine pj_in rfl (ls := [some (.ref f0), some (.ref k), some (.int (nI N)), some (.int (nI j)), none]) rfl (Nat.le_of_ble_eq_true rfl) ?_
  refine pj_ald0 (q := 1) (pj_d p_X3_dyeOfFirstRow 0 rfl) rfl ?_
  refine pj_ald1 (q := 2) (pj_d p_X3_dyeOfFirstRow 1 rfl) rfl ?_
  refine pj_ild2 (q := 3) (pj_d p_X3_dyeOfFirstRow 2 rfl) rfl ?_
  refine pj_iconst (q := 4) (v := nI 0) (pj_d p_X3_dyeOfFirstRow 3 rfl) rfl (by decide) ?_
  refine pj_cv (pj_rV (q := 7) (c_X3_fillDyes hN hfk hW N 0 (fun _ => 0) f h (by omega) F0 F2 hT (fun i hi => absurd hi (Nat.not_lt_zero i))) (pj_d p_X3_dyeOfFirstRow 4 rfl) rfl kX3_84 o_X3_fillDyes (by first | assumption | exact pj_up_s | exact (pj_up_n (by omega)).trans (by assumption)) (by rfl) (by rfl) (by rfl) (by rfl) (Nat.le_of_ble_eq_true rfl) (by omega)) (by decide) (by decide) ?_
  rintro r1 h1 n1 ⟨rfl, rfl, f3, rfl, g1, g2⟩
  refine pj_ist4 (q := 9) (pj_d p_X3_dyeOfFirstRow 5 rfl) rfl (by first | rfl | assumption) ?_
  refine pj_ild4 (q := 11) (pj_d p_X3_dyeOfFirstRow 6 rfl) rfl ?_
  rw [gd_dk]
  refine pj_if_eq (t := 33) (q := 14) (pj_d p_X3_dyeOfFirstRow 7 rfl) rfl (by decide) (fun c1 => ?_) (fun c1 => ?_)
  · cases e3 : gd_fil τ N 0 (fun _ => 0) with
    | none =>
      refine pj_ldc (q := 35) (pj_d p_X3_dyeOfFirstRow 18 rfl) rfl kX3_55 ?_
      refine pj_iret rfl (pj_d p_X3_dyeOfFirstRow 19 rfl) (by decide) (by decide) ?_
      exact ⟨rfl, rfl, f3, rfl⟩
    | some q => rw [e3] at c1; exact absurd c1 (show ¬ gd_b true = 0 by decide)
  · cases e3 : gd_fil τ N 0 (fun _ => 0) with
    | none => rw [e3] at c1; exact absurd rfl c1
    | some q =>
      refine pj_ild3 (q := 15) (pj_d p_X3_dyeOfFirstRow 8 rfl) rfl ?_
      refine pj_if_lt (t := 33) (q := 18) (pj_d p_X3_dyeOfFirstRow 9 rfl) rfl (by decide) (fun c2 => ?_) (fun c2 => ?_)
      · exact absurd c2 (nI_pos (by omega))
      refine pj_ild3 (q := 19) (pj_d p_X3_dyeOfFirstRow 10 rfl) rfl ?_
      refine pj_bipush (q := 21) (v := nI 6) (pj_d p_X3_dyeOfFirstRow 11 rfl) rfl (by decide) ?_
      refine pj_icmp_ge (t := 33) (q := 24) (pj_d p_X3_dyeOfFirstRow 12 rfl) rfl (by decide) (fun c3 => ?_) (fun c3 => ?_)
      · exact absurd (gd_ge c3 (by omega) (by omega)) (by omega)
      refine pj_ald0 (q := 25) (pj_d p_X3_dyeOfFirstRow 13 rfl) rfl ?_
      refine pj_gf (q := 28) (k := 1) (pj_d p_X3_dyeOfFirstRow 14 rfl) rfl kX3_17 (by first | assumption | exact pj_up_s | exact (pj_up_n (by omega)).trans (by assumption)) (by rfl) (by rfl) ?_
      refine pj_ild3 (q := 29) (pj_d p_X3_dyeOfFirstRow 15 rfl) rfl ?_
      refine pj_ialdN (q := 30) (pj_d p_X3_dyeOfFirstRow 16 rfl) rfl (by first | assumption | exact pj_up_s | exact (pj_up_n (by omega)).trans (by assumption)) (by rfl) (by first | assumption | omega) (Nat.le_of_ble_eq_true rfl) ?_
      rw [g2 q e3 j hj]
      refine pj_goto (t := 35) (pj_d p_X3_dyeOfFirstRow 17 rfl) (by decide) ?_
      refine pj_iret rfl (pj_d p_X3_dyeOfFirstRow 19 rfl) (by decide) (by decide) ?_
      exact ⟨rfl, rfl, f3, rfl⟩
theorem c_X3_countDyePairs (hT : gd_T h k τ ac) (hW : gd_W τ) : pj_Ct E B l Y_X3_countDyePairs 4 0 0 [.ref f0, .ref k] h n (pj_is (some (.int (nI (gd_dp τ)))) h n) := by
  refine pj_in rfl (ls := [some (.ref f0), some (.ref k), none, none, none]) rfl (Nat.le_of_ble_eq_true rfl) ?_
  refine pj_iconst (q := 1) (v := nI 0) (pj_d p_X3_countDyePairs 0 rfl) rfl (by decide) ?_
  refine pj_ist2 (q := 2) (pj_d p_X3_countDyePairs 1 rfl) rfl (by first | rfl | assumption) ?_
  refine pj_iconst (q := 3) (v := nI 1) (pj_d p_X3_countDyePairs 2 rfl) rfl (by decide) ?_
  refine pj_ist3 (q := 4) (pj_d p_X3_countDyePairs 3 rfl) rfl (by first | rfl | assumption) ?_
  have loop : ∀ m i (o4 : Option Value), 31 - i < m → i ≤ 31 → pj_V E B l Y_X3_countDyePairs 4 0 0 4 [some (.ref f0), some (.ref k), some (.int (nI (gd_sm (gd_dpc τ) i))), some (.int (nI (i + 1))), o4] [] h n 0 0 (pj_is (some (.int (nI (gd_dp τ)))) h n) := by
    intro m
    induction m with
    | zero => intro i o4 hi; omega
    | succ m ih =>
      intro i o4 hi hle
      refine pj_ild3 (q := 5) (pj_d p_X3_countDyePairs 4 rfl) rfl ?_
      refine pj_bipush (q := 7) (v := nI 31) (pj_d p_X3_countDyePairs 5 rfl) rfl (by decide) ?_
      refine pj_icmp_gt (t := 47) (q := 10) (pj_d p_X3_countDyePairs 6 rfl) rfl (by decide) (fun c1 => ?_) (fun c1 => ?_)
      · have he : i = 31 := by have := (nI_ltI (by omega) (by omega)).mp c1; omega
        rw [he]
        refine pj_ild2 (q := 48) (pj_d p_X3_countDyePairs 24 rfl) rfl ?_
        refine pj_iret rfl (pj_d p_X3_countDyePairs 25 rfl) (by decide) (by decide) ?_
        exact ⟨rfl, rfl, rfl⟩
      have hlt : i < 31 := by
        have : ¬ 31 < i + 1 := fun q => c1 (nI_lt q (by omega))
        omega
      have inner : ∀ m2 j, 30 - i - j < m2 → j ≤ 30 - i → pj_V E B l Y_X3_countDyePairs 4 0 0 15 [some (.ref f0), some (.ref k), some (.int (nI (gd_sm (gd_dpc τ) i + gd_sm (gd_dpe τ i) j))), some (.int (nI (i + 1))), some (.int (nI (i + 2 + j)))] [] h n 0 0 (pj_is (some (.int (nI (gd_dp τ)))) h n) := by
        intro m2
        induction m2 with
        | zero => intro j hi; omega
        | succ m2 ih2 =>
          intro j hj hjle
          refine pj_ild4 (q := 17) (pj_d p_X3_countDyePairs 11 rfl) rfl ?_
          refine pj_bipush (q := 19) (v := nI 31) (pj_d p_X3_countDyePairs 12 rfl) rfl (by decide) ?_
          refine pj_icmp_gt (t := 41) (q := 22) (pj_d p_X3_countDyePairs 13 rfl) rfl (by decide) (fun c2 => ?_) (fun c2 => ?_)
          · have he : j = 30 - i := by have := (nI_ltI (by omega) (by omega)).mp c2; omega
            rw [he]
            refine pj_iinc3 (q := 44) (v := 1) (pj_d p_X3_countDyePairs 22 rfl) rfl (by first | rfl | assumption) (by decide) ?_
            refine pj_goto (t := 4) (pj_d p_X3_countDyePairs 23 rfl) (by decide) ?_
            rw [nI_1]
            exact ih (i + 1) _ (by omega) (by omega)
          have hlt2 : i + 2 + j < 32 := by
            have : ¬ 31 < i + 2 + j := fun q => c2 (nI_lt q (by omega))
            omega
          have nx : ∀ x, x = gd_sm (gd_dpc τ) i + gd_sm (gd_dpe τ i) (j + 1) → pj_V E B l Y_X3_countDyePairs 4 0 0 35 [some (.ref f0), some (.ref k), some (.int (nI x)), some (.int (nI (i + 1))), some (.int (nI (i + 2 + j)))] [] h n 0 0 (pj_is (some (.int (nI (gd_dp τ)))) h n) := by
            intro x hx
            rw [hx]
            refine pj_iinc4 (q := 38) (v := 1) (pj_d p_X3_countDyePairs 20 rfl) rfl (by first | rfl | assumption) (by decide) ?_
            refine pj_goto (t := 15) (pj_d p_X3_countDyePairs 21 rfl) (by decide) ?_
            rw [nI_1]
            exact ih2 (j + 1) (by omega) (by omega)
          refine pj_ald1 (q := 23) (pj_d p_X3_countDyePairs 14 rfl) rfl ?_
          refine pj_ild3 (q := 24) (pj_d p_X3_countDyePairs 15 rfl) rfl ?_
          refine pj_ild4 (q := 26) (pj_d p_X3_countDyePairs 16 rfl) rfl ?_
          refine pj_cp (pj_rS (q := 29) (c_X3_areApart hT hW (a := i + 1) (b := i + 2 + j) (by omega) hlt2) (pj_d p_X3_countDyePairs 17 rfl) rfl kX3_80 o_X3_areApart (by rfl) (by rfl) (Nat.le_of_ble_eq_true rfl) (by decide)) (by decide) (by decide) ?_
          refine pj_if_eq (t := 35) (q := 32) (pj_d p_X3_countDyePairs 18 rfl) rfl (by decide) (fun c3 => ?_) (fun c3 => ?_)
          · have e := (gd_b_z _).mp c3
            exact nx _ (by rw [gd_sm, gd_dpe, e, if_neg (by decide)]; rfl)
          · have e := (gd_b_n _).mp c3
            refine pj_iinc2 (q := 35) (v := 1) (pj_d p_X3_countDyePairs 19 rfl) rfl (by first | rfl | assumption) (by decide) ?_
            rw [nI_1]
            exact nx _ (by rw [gd_sm, gd_dpe, e, if_pos rfl]; omega)
      refine pj_ild3 (q := 11) (pj_d p_X3_countDyePairs 7 rfl) rfl ?_
      refine pj_iconst (q := 12) (v := nI 1) (pj_d p_X3_countDyePairs 8 rfl) rfl (by decide) ?_
      refine pj_iadd (q := 13) (pj_d p_X3_countDyePairs 9 rfl) rfl ?_
      rw [nI_add]
      refine pj_ist4 (q := 15) (pj_d p_X3_countDyePairs 10 rfl) rfl (by first | rfl | assumption) ?_
      exact inner (31 - i) 0 (by omega) (by omega)
  exact loop 32 0 none (by omega) (by omega)
theorem c_X11_dyes (hX : gd_XR h b po lf st τ ac) (x y : Int32) : pj_Ct E B l Y_X11_dyes 15 0 0 [.ref b, .int x, .int y] h n (gd_sr (sp_dyes τ x y) h (b + 17) 6 n) := by
  obtain ⟨hx, hF, hW, hp⟩ := hX
  have h7 := hW.1
  have F0 := hF.1
  obtain ⟨f2, F2⟩ := hF.2.2.1
  refine pj_in rfl (ls := [some (.ref b), some (.int (x)), some (.int (y))]) rfl (Nat.le_of_ble_eq_true rfl) ?_
  cases po with
  | none =>
    obtain ⟨p0, p1⟩ := hp
    have hx : h b = some (.inr (10, [.ref (b + 1), .ref (b + 13), .ref (b + 15), .ref (b + 19), .ref (b + 21), .null, .int lf, .int st])) := hx
    refine pj_ald0 (q := 1) (pj_d p_X11_dyes 0 rfl) rfl ?_
    refine pj_gf (q := 4) (k := 5) (pj_d p_X11_dyes 1 rfl) rfl kX11_102 (by first | assumption | exact pj_up_s | exact (pj_up_n (by omega)).trans (by assumption)) (by rfl) (by rfl) ?_
    refine pj_ifnonnullN (q := 7) (pj_d p_X11_dyes 2 rfl) rfl ?_
    refine pj_ldc (q := 9) (pj_d p_X11_dyes 3 rfl) rfl kX11_112 ?_
    refine pj_iret rfl (pj_d p_X11_dyes 4 rfl) (by decide) (by decide) ?_
    exact gd_sr_same F2 (by simp [sp_dyes, p0])
  | some k =>
    obtain ⟨hk, p0, hT⟩ := hp
    have hx : h b = some (.inr (10, [.ref (b + 1), .ref (b + 13), .ref (b + 15), .ref (b + 19), .ref (b + 21), .ref k, .int lf, .int st])) := hx
    have t0 := hT.1
    refine pj_ald0 (q := 1) (pj_d p_X11_dyes 0 rfl) rfl ?_
    refine pj_gf (q := 4) (k := 5) (pj_d p_X11_dyes 1 rfl) rfl kX11_102 (by first | assumption | exact pj_up_s | exact (pj_up_n (by omega)).trans (by assumption)) (by rfl) (by rfl) ?_
    refine pj_ifnonnull (t := 10) (pj_d p_X11_dyes 2 rfl) (by decide) ?_
    have bad : ¬ (gd_rng x 1 6 = true ∧ gd_rng y (-1) (x.toInt - 1) = true) → pj_V E B l Y_X11_dyes 15 0 0 31 [some (.ref b), some (.int (x)), some (.int (y))] [] h n 0 0 (gd_sr (sp_dyes τ x y) h (b + 17) 6 n) := by
      intro hn
      refine pj_ldc (q := 33) (pj_d p_X11_dyes 17 rfl) rfl kX11_47 ?_
      refine pj_iret rfl (pj_d p_X11_dyes 18 rfl) (by decide) (by decide) ?_
      exact gd_sr_same F2 (by rw [sp_dyes, if_pos p0, if_neg hn])
    refine pj_ild1 (q := 11) (pj_d p_X11_dyes 5 rfl) rfl ?_
    refine pj_iconst (q := 12) (v := nI 1) (pj_d p_X11_dyes 6 rfl) rfl (by decide) ?_
    refine pj_icmp_lt (t := 31) (q := 15) (pj_d p_X11_dyes 7 rfl) rfl (by decide) (fun c1 => ?_) (fun c1 => ?_)
    · exact bad (fun q => by rw [show gd_rng x 1 6 = false from gd_rng_lt (lo := 1) (by decide) c1] at q; exact absurd q.1 (by decide))
    refine pj_ild1 (q := 16) (pj_d p_X11_dyes 8 rfl) rfl ?_
    refine pj_bipush (q := 18) (v := nI 6) (pj_d p_X11_dyes 9 rfl) rfl (by decide) ?_
    refine pj_icmp_gt (t := 31) (q := 21) (pj_d p_X11_dyes 10 rfl) rfl (by decide) (fun c2 => ?_) (fun c2 => ?_)
    · exact bad (fun q => by rw [show gd_rng x 1 6 = false from gd_rng_gt (hi := 6) (by decide) c2] at q; exact absurd q.1 (by decide))
    have e1 : gd_rng x 1 6 = true := gd_rng_in1 (lo := 1) (hi := 6) (by decide) (by decide) c1 c2
    obtain ⟨N, hN1, hN, rfl, hd⟩ := gd_rng_of1 (hi := 6) e1
    have nN : (nI N).toInt = N := nI_toInt (by omega)
    refine pj_ild2 (q := 22) (pj_d p_X11_dyes 11 rfl) rfl ?_
    refine pj_iconst (q := 23) (v := (-1)) (pj_d p_X11_dyes 12 rfl) rfl (by decide) ?_
    refine pj_icmp_lt (t := 31) (q := 26) (pj_d p_X11_dyes 13 rfl) rfl (by decide) (fun c3 => ?_) (fun c3 => ?_)
    · refine bad (fun q => ?_)
      have q2 := q.2
      rw [gd_rng, decide_eq_true_eq] at q2
      rw [Int32.lt_iff_toInt_lt, show ((-1 : Int32)).toInt = -1 by decide] at c3
      omega
    rw [Int32.lt_iff_toInt_lt, show ((-1 : Int32)).toInt = -1 by decide] at c3
    refine pj_ild2 (q := 27) (pj_d p_X11_dyes 14 rfl) rfl ?_
    refine pj_ild1 (q := 28) (pj_d p_X11_dyes 15 rfl) rfl ?_
    refine pj_icmp_lt (t := 34) (q := 31) (pj_d p_X11_dyes 16 rfl) rfl (by decide) (fun c4 => ?_) (fun c4 => ?_)
    rotate_left
    · refine bad (fun q => ?_)
      have q2 := q.2
      rw [gd_rng, decide_eq_true_eq] at q2
      rw [Int32.lt_iff_toInt_lt] at c4
      omega
    rw [Int32.lt_iff_toInt_lt] at c4
    have e2 : gd_rng y (-1) ((nI N).toInt - 1) = true := by
      rw [gd_rng, decide_eq_true_eq]
      omega
    refine pj_ild2 (q := 35) (pj_d p_X11_dyes 19 rfl) rfl ?_
    refine pj_if_ge (t := 52) (q := 38) (pj_d p_X11_dyes 20 rfl) rfl (by decide) (fun c5 => ?_) (fun c5 => ?_)
    · rw [Int32.le_iff_toInt_le, show (0 : Int32).toInt = 0 by decide] at c5
      obtain ⟨j, hj, rfl⟩ := nI_of (x := y) (by rw [Int32.lt_iff_toInt_lt, show (0 : Int32).toInt = 0 by decide]; omega)
      have nj : (nI j).toInt = j := nI_toInt hj
      refine pj_ald0 (q := 53) (pj_d p_X11_dyes 27 rfl) rfl ?_
      refine pj_gf (q := 56) (k := 2) (pj_d p_X11_dyes 28 rfl) rfl kX11_26 (by first | assumption | exact pj_up_s | exact (pj_up_n (by omega)).trans (by assumption)) (by rfl) (by rfl) ?_
      refine pj_ald0 (q := 57) (pj_d p_X11_dyes 29 rfl) rfl ?_
      refine pj_gf (q := 60) (k := 5) (pj_d p_X11_dyes 30 rfl) rfl kX11_102 (by first | assumption | exact pj_up_s | exact (pj_up_n (by omega)).trans (by assumption)) (by rfl) (by rfl) ?_
      refine pj_ild1 (q := 61) (pj_d p_X11_dyes 31 rfl) rfl ?_
      refine pj_ild2 (q := 62) (pj_d p_X11_dyes 32 rfl) rfl ?_
      refine pj_cv (pj_rV (q := 65) (c_X3_dyeOfFirstRow hF hT hW (by omega) hN (j := j) (by omega)) (pj_d p_X11_dyes 33 rfl) rfl kX11_211 o_X3_dyeOfFirstRow (by first | assumption | exact pj_up_s | exact (pj_up_n (by omega)).trans (by assumption)) (by rfl) (by rfl) (by rfl) (by rfl) (Nat.le_of_ble_eq_true rfl) (by decide)) (by decide) (by decide) ?_
      rintro r1 h1 n1 ⟨rfl, rfl, f3, rfl⟩
      refine pj_iret rfl (pj_d p_X11_dyes 34 rfl) (by decide) (by decide) ?_
      refine ⟨?_, rfl, f3, rfl⟩
      rw [sp_dyes, if_pos p0, if_pos ⟨e1, e2⟩, if_neg (by omega), hd, nI_clamp (n := j) (by omega)]
    · rw [Int32.le_iff_toInt_le, show (0 : Int32).toInt = 0 by decide] at c5
      refine pj_ald0 (q := 39) (pj_d p_X11_dyes 21 rfl) rfl ?_
      refine pj_gf (q := 42) (k := 2) (pj_d p_X11_dyes 22 rfl) rfl kX11_26 (by first | assumption | exact pj_up_s | exact (pj_up_n (by omega)).trans (by assumption)) (by rfl) (by rfl) ?_
      refine pj_ald0 (q := 43) (pj_d p_X11_dyes 23 rfl) rfl ?_
      refine pj_gf (q := 46) (k := 5) (pj_d p_X11_dyes 24 rfl) rfl kX11_102 (by first | assumption | exact pj_up_s | exact (pj_up_n (by omega)).trans (by assumption)) (by rfl) (by rfl) ?_
      refine pj_cp (pj_rV (q := 49) (c_X3_countDyePairs (f0 := b + 15) hT hW) (pj_d p_X11_dyes 25 rfl) rfl kX11_208 o_X3_countDyePairs (by first | assumption | exact pj_up_s | exact (pj_up_n (by omega)).trans (by assumption)) (by rfl) (by rfl) (by rfl) (by rfl) (Nat.le_of_ble_eq_true rfl) (by decide)) (by decide) (by decide) ?_
      refine pj_goto (t := 65) (pj_d p_X11_dyes 26 rfl) (by decide) ?_
      refine pj_iret rfl (pj_d p_X11_dyes 34 rfl) (by decide) (by decide) ?_
      exact gd_sr_same F2 (by rw [sp_dyes, if_pos p0, if_pos ⟨e1, e2⟩, if_pos (by omega)])
theorem c_X12_areApart (hM : h g = some (.inr (11, gd_Mo g v))) (hT : h (g + 4) = some (.inl (0, 56, .inl (fun j => nI (τ j))))) (hW : gd_W τ) {a b : Nat} (ha : a < 32) (hb : b < 32) : pj_Ct E B l Y_X12_areApart 2 0 0 [.ref g, .int (nI a), .int (nI b)] h n (pj_is (some (.int (gd_b (gd_ap τ a b)))) h n) := by
  refine pj_in rfl (ls := [some (.ref g), some (.int (nI a)), some (.int (nI b)), none, none, none]) rfl (Nat.le_of_ble_eq_true rfl) ?_
  refine pj_iconst (q := 1) (v := nI 1) (pj_d p_X12_areApart 0 rfl) rfl (by decide) ?_
  refine pj_ist3 (q := 2) (pj_d p_X12_areApart 1 rfl) rfl (by first | rfl | assumption) ?_
  refine pj_iconst (q := 3) (v := nI 0) (pj_d p_X12_areApart 2 rfl) rfl (by decide) ?_
  refine pj_ist4 (q := 5) (pj_d p_X12_areApart 3 rfl) rfl (by first | rfl | assumption) ?_
  have loop : ∀ m w o5, 7 - w < m → w ≤ 7 → pj_V E B l Y_X12_areApart 2 0 0 5 [some (.ref g), some (.int (nI a)), some (.int (nI b)), some (.int (gd_b (gd_apN τ a b w))), some (.int (nI w)), o5] [] h n 0 0 (pj_is (some (.int (gd_b (gd_ap τ a b)))) h n) := by
    intro m
    induction m with
    | zero => intro w o5 hi; omega
    | succ m ih =>
      intro w o5 hi hle
      refine pj_ild4 (q := 7) (pj_d p_X12_areApart 4 rfl) rfl ?_
      refine pj_bipush (q := 9) (v := nI 7) (pj_d p_X12_areApart 5 rfl) rfl (by decide) ?_
      refine pj_icmp_ge (t := 57) (q := 12) (pj_d p_X12_areApart 6 rfl) rfl (by decide) (fun c1 => ?_) (fun c1 => ?_)
      · have he : w = 7 := by have := gd_ge c1 (by omega) (by omega); omega
        subst he
        refine pj_ild3 (q := 58) (pj_d p_X12_areApart 34 rfl) rfl ?_
        refine pj_zret rfl (gd_b_nar _) (pj_d p_X12_areApart 35 rfl) (by decide) (by decide) ⟨rfl, rfl, rfl⟩
      have hlt : w < 7 := gd_lt c1 (by omega)
      have hst : gd_setOf (τ (4 + w)) < 32 := gd_setOf_lt _ (hW.2.2.2.1 w hlt)
      have i56 : 4 + w < 56 := by omega
      refine pj_ald0 (q := 13) (pj_d p_X12_areApart 7 rfl) rfl ?_
      refine pj_gf (q := 16) (k := 5) (pj_d p_X12_areApart 8 rfl) rfl kX12_19 (by first | assumption | exact pj_up_s | exact (pj_up_n (by omega)).trans (by assumption)) (by rfl) (by rfl) ?_
      refine pj_iconst (q := 17) (v := nI 4) (pj_d p_X12_areApart 9 rfl) rfl (by decide) ?_
      refine pj_ild4 (q := 19) (pj_d p_X12_areApart 10 rfl) rfl ?_
      refine pj_iadd (q := 20) (pj_d p_X12_areApart 11 rfl) rfl ?_
      rw [nI_add]
      refine pj_ialdN (q := 21) (pj_d p_X12_areApart 12 rfl) rfl (by first | assumption | exact pj_up_s | exact (pj_up_n (by omega)).trans (by assumption)) (by rfl) (by first | assumption | omega) (Nat.le_of_ble_eq_true rfl) ?_
      refine pj_cp (pj_rS (q := 24) (c_X12_setOf (τ (4 + w)) (hW.2.2.2.1 w hlt)) (pj_d p_X12_areApart 13 rfl) rfl kX12_164 o_X12_setOf (by rfl) (by rfl) (Nat.le_of_ble_eq_true rfl) (by decide)) (by decide) (by decide) ?_
      have nx : ∀ z, z = gd_apN τ a b (w + 1) → pj_V E B l Y_X12_areApart 2 0 0 50 [some (.ref g), some (.int (nI a)), some (.int (nI b)), some (.int (gd_b (gd_apN τ a b w))), some (.int (nI w)), some (.int (nI (gd_setOf (τ (4 + w)))))] [.int (gd_b z)] h n 0 0 (pj_is (some (.int (gd_b (gd_ap τ a b)))) h n) := by
        intro z hz
        subst hz
        refine pj_ist3 (q := 51) (pj_d p_X12_areApart 31 rfl) rfl (by first | rfl | assumption) ?_
        refine pj_iinc4 (q := 54) (v := 1) (pj_d p_X12_areApart 32 rfl) rfl (by first | rfl | assumption) (by decide) ?_
        refine pj_goto (t := 5) (pj_d p_X12_areApart 33 rfl) (by decide) ?_
        rw [nI_1]
        exact ih (w + 1) _ (by omega) (by omega)
      refine pj_ist5 (q := 26) (pj_d p_X12_areApart 14 rfl) rfl (by first | rfl | assumption) ?_
      refine pj_ild3 (q := 27) (pj_d p_X12_areApart 15 rfl) rfl ?_
      refine pj_if_eq (t := 49) (q := 30) (pj_d p_X12_areApart 16 rfl) rfl (by decide) (fun c2 => ?_) (fun c2 => ?_)
      · have e := (gd_b_z _).mp c2
        refine pj_iconst (q := 50) (v := nI 0) (pj_d p_X12_areApart 30 rfl) rfl (by decide) ?_
        exact nx false (by rw [gd_apN, e, Bool.false_and])
      have e := (gd_b_n _).mp c2
      refine pj_ild1 (q := 31) (pj_d p_X12_areApart 17 rfl) rfl ?_
      refine pj_ild5 (q := 33) (pj_d p_X12_areApart 18 rfl) rfl ?_
      refine pj_iconst (q := 34) (v := (-1)) (pj_d p_X12_areApart 19 rfl) rfl (by decide) ?_
      refine pj_ixor (q := 35) (pj_d p_X12_areApart 20 rfl) rfl ?_
      refine pj_iand (q := 36) (pj_d p_X12_areApart 21 rfl) rfl ?_
      rw [gd_leftI a ha _ hst]
      refine pj_ild2 (q := 37) (pj_d p_X12_areApart 22 rfl) rfl ?_
      refine pj_ild5 (q := 39) (pj_d p_X12_areApart 23 rfl) rfl ?_
      refine pj_iconst (q := 40) (v := (-1)) (pj_d p_X12_areApart 24 rfl) rfl (by decide) ?_
      refine pj_ixor (q := 41) (pj_d p_X12_areApart 25 rfl) rfl ?_
      refine pj_iand (q := 42) (pj_d p_X12_areApart 26 rfl) rfl ?_
      rw [gd_leftI b hb _ hst]
      have la := gd_left_lt a ha _ hst
      have lb := gd_left_lt b hb _ hst
      refine pj_icmp_eq (t := 49) (q := 45) (pj_d p_X12_areApart 27 rfl) rfl (by decide) (fun c3 => ?_) (fun c3 => ?_)
      · have heq := (nI_eq (by omega) (by omega)).mp c3
        refine pj_iconst (q := 50) (v := nI 0) (pj_d p_X12_areApart 30 rfl) rfl (by decide) ?_
        exact nx false (by rw [gd_apN, decide_eq_false (fun q => q heq), Bool.and_false])
      · have hne : gd_left a (gd_setOf (τ (4 + w))) ≠ gd_left b (gd_setOf (τ (4 + w))) := fun q => c3 (by rw [q])
        refine pj_iconst (q := 46) (v := nI 1) (pj_d p_X12_areApart 28 rfl) rfl (by decide) ?_
        refine pj_goto (t := 50) (pj_d p_X12_areApart 29 rfl) (by decide) ?_
        exact nx true (by rw [gd_apN, e, decide_eq_true hne]; rfl)
  exact loop 8 0 none (by omega) (by omega)
theorem c_X12_areMixes {f8 : Nat → Int32} {N : Nat} (hM : h g = some (.inr (11, gd_Mo g v))) (hT : h (g + 4) = some (.inl (0, 56, .inl (fun j => nI (τ j))))) (hW : gd_W τ) (h8 : h (g + 8) = some (.inl (0, 6, .inl f8))) (hN : N ≤ 6) (hN1 : 1 ≤ N) : pj_Ct E B l Y_X12_areMixes 3 0 0 [.ref g, .int (nI N)] h n (fun r1 h' n' => r1 = some (.int (gd_b (gd_fil τ N 0 (fun _ => 0)).isSome)) ∧ n' = n ∧ ∃ f', h' = pj_up h (g + 8) (.inl (0, 6, .inl f')) ∧ ∀ q, gd_fil τ N 0 (fun _ => 0) = some q → ∀ i, i < N → f' i = nI (q i)) := by
  refine pj_in rfl (ls := [some (.ref g), some (.int (nI N)), none, none, none]) rfl (Nat.le_of_ble_eq_true rfl) ?_
  refine pj_iconst (q := 1) (v := nI 0) (pj_d p_X12_areMixes 0 rfl) rfl (by decide) ?_
  refine pj_ist2 (q := 2) (pj_d p_X12_areMixes 1 rfl) rfl (by first | rfl | assumption) ?_
  refine pj_ald0 (q := 3) (pj_d p_X12_areMixes 2 rfl) rfl ?_
  refine pj_gf (q := 6) (k := 18) (pj_d p_X12_areMixes 3 rfl) rfl kX12_31 (by first | assumption | exact pj_up_s | exact (pj_up_n (by omega)).trans (by assumption)) (by rfl) (by rfl) ?_
  refine pj_iconst (q := 7) (v := nI 0) (pj_d p_X12_areMixes 4 rfl) rfl (by decide) ?_
  refine pj_iconst (q := 8) (v := nI 0) (pj_d p_X12_areMixes 5 rfl) rfl (by decide) ?_
  refine pj_iast (q := 9) (pj_d p_X12_areMixes 6 rfl) rfl (by first | assumption | exact pj_up_s | exact (pj_up_n (by omega)).trans (by assumption)) (by rfl) (by first | assumption | omega) (Nat.le_of_ble_eq_true rfl) ?_
  have lvl : ∀ u p (r : Nat → Nat), p + u = N → (∀ i, i < p → r i < 32) → (∀ q f o3 o4, gd_fil τ u p r = some q → (∀ i, i < N → f i = nI (q i)) → pj_V E B l Y_X12_areMixes 3 0 0 9 [some (.ref g), some (.int (nI N)), some (.int (nI N)), o3, o4] [] (pj_up h (g + 8) (.inl (0, 6, .inl f))) n 0 0 (fun r1 h' n' => r1 = some (.int (gd_b (gd_fil τ N 0 (fun _ => 0)).isSome)) ∧ n' = n ∧ ∃ f', h' = pj_up h (g + 8) (.inl (0, 6, .inl f')) ∧ ∀ q, gd_fil τ N 0 (fun _ => 0) = some q → ∀ i, i < N → f' i = nI (q i))) → (∀ f o3 o4, gd_fil τ u p r = none → (∀ i, i < p → f i = nI (r i)) → pj_V E B l Y_X12_areMixes 3 0 0 9 [some (.ref g), some (.int (nI N)), some (.int (nI p + (-1))), o3, o4] [] (pj_up h (g + 8) (.inl (0, 6, .inl f))) n 0 0 (fun r1 h' n' => r1 = some (.int (gd_b (gd_fil τ N 0 (fun _ => 0)).isSome)) ∧ n' = n ∧ ∃ f', h' = pj_up h (g + 8) (.inl (0, 6, .inl f')) ∧ ∀ q, gd_fil τ N 0 (fun _ => 0) = some q → ∀ i, i < N → f' i = nI (q i))) → ∀ f o3 o4, (∀ i, i < p → f i = nI (r i)) → (p < N → f p = nI (gd_lst p r)) → pj_V E B l Y_X12_areMixes 3 0 0 9 [some (.ref g), some (.int (nI N)), some (.int (nI p)), o3, o4] [] (pj_up h (g + 8) (.inl (0, 6, .inl f))) n 0 0 (fun r1 h' n' => r1 = some (.int (gd_b (gd_fil τ N 0 (fun _ => 0)).isSome)) ∧ n' = n ∧ ∃ f', h' = pj_up h (g + 8) (.inl (0, 6, .inl f')) ∧ ∀ q, gd_fil τ N 0 (fun _ => 0) = some q → ∀ i, i < N → f' i = nI (q i)) := by
    intro u
    induction u with
    | zero =>
      intro p r hp hr hs hf f o3 o4 hfr hfl
      have e : p = N := by omega
      rw [e] at hfr ⊢
      exact hs r f o3 o4 rfl hfr
    | succ u ih =>
      intro p r hp hr hs hf
      have p6 : p < 6 := by omega
      have inner : ∀ fu m, fu + m = 32 → 1 ≤ m → (∀ q f o3 o4, gd_try τ (gd_fil τ u (p + 1)) p r fu m = some q → (∀ i, i < N → f i = nI (q i)) → pj_V E B l Y_X12_areMixes 3 0 0 9 [some (.ref g), some (.int (nI N)), some (.int (nI N)), o3, o4] [] (pj_up h (g + 8) (.inl (0, 6, .inl f))) n 0 0 (fun r1 h' n' => r1 = some (.int (gd_b (gd_fil τ N 0 (fun _ => 0)).isSome)) ∧ n' = n ∧ ∃ f', h' = pj_up h (g + 8) (.inl (0, 6, .inl f')) ∧ ∀ q, gd_fil τ N 0 (fun _ => 0) = some q → ∀ i, i < N → f' i = nI (q i))) → (∀ f o3 o4, gd_try τ (gd_fil τ u (p + 1)) p r fu m = none → (∀ i, i < p → f i = nI (r i)) → pj_V E B l Y_X12_areMixes 3 0 0 9 [some (.ref g), some (.int (nI N)), some (.int (nI p + (-1))), o3, o4] [] (pj_up h (g + 8) (.inl (0, 6, .inl f))) n 0 0 (fun r1 h' n' => r1 = some (.int (gd_b (gd_fil τ N 0 (fun _ => 0)).isSome)) ∧ n' = n ∧ ∃ f', h' = pj_up h (g + 8) (.inl (0, 6, .inl f')) ∧ ∀ q, gd_fil τ N 0 (fun _ => 0) = some q → ∀ i, i < N → f' i = nI (q i))) → ∀ f o3 o4, (∀ i, i < p → f i = nI (r i)) → f p = nI (m - 1) → pj_V E B l Y_X12_areMixes 3 0 0 9 [some (.ref g), some (.int (nI N)), some (.int (nI p)), o3, o4] [] (pj_up h (g + 8) (.inl (0, 6, .inl f))) n 0 0 (fun r1 h' n' => r1 = some (.int (gd_b (gd_fil τ N 0 (fun _ => 0)).isSome)) ∧ n' = n ∧ ∃ f', h' = pj_up h (g + 8) (.inl (0, 6, .inl f')) ∧ ∀ q, gd_fil τ N 0 (fun _ => 0) = some q → ∀ i, i < N → f' i = nI (q i)) := by
        intro fu
        induction fu with
        | zero =>
          intro m hm h1 hs hf f o3 o4 hfr hfp
          have m32 : m = 32 := by omega
          refine pj_ild2 (q := 10) (pj_d p_X12_areMixes 7 rfl) rfl ?_
          refine pj_if_lt (t := 121) (q := 13) (pj_d p_X12_areMixes 8 rfl) rfl (by decide) (fun c1 => ?_) (fun c1 => ?_)
          · exact absurd c1 (nI_pos (by omega))
          refine pj_ild2 (q := 14) (pj_d p_X12_areMixes 9 rfl) rfl ?_
          refine pj_ild1 (q := 15) (pj_d p_X12_areMixes 10 rfl) rfl ?_
          refine pj_icmp_ge (t := 121) (q := 18) (pj_d p_X12_areMixes 11 rfl) rfl (by decide) (fun c2 => ?_) (fun c2 => ?_)
          · exact absurd (gd_ge c2 (by omega) (by omega)) (by omega)
          refine pj_ald0 (q := 19) (pj_d p_X12_areMixes 12 rfl) rfl ?_
          refine pj_gf (q := 22) (k := 18) (pj_d p_X12_areMixes 13 rfl) rfl kX12_31 (by first | assumption | exact pj_up_s | exact (pj_up_n (by omega)).trans (by assumption)) (by rfl) (by rfl) ?_
          refine pj_ild2 (q := 23) (pj_d p_X12_areMixes 14 rfl) rfl ?_
          refine pj_dup2 (q := 24) (pj_d p_X12_areMixes 15 rfl) rfl rfl rfl ?_
          refine pj_ialdN (q := 25) (pj_d p_X12_areMixes 16 rfl) rfl (by first | assumption | exact pj_up_s | exact (pj_up_n (by omega)).trans (by assumption)) (by rfl) (by first | assumption | omega) (Nat.le_of_ble_eq_true rfl) ?_
          rw [hfp]
          refine pj_iconst (q := 26) (v := nI 1) (pj_d p_X12_areMixes 17 rfl) rfl (by decide) ?_
          refine pj_iadd (q := 27) (pj_d p_X12_areMixes 18 rfl) rfl ?_
          rw [nI_add]
          refine pj_iast (q := 28) (pj_d p_X12_areMixes 19 rfl) rfl (by first | assumption | exact pj_up_s | exact (pj_up_n (by omega)).trans (by assumption)) (by rfl) (by first | assumption | omega) (Nat.le_of_ble_eq_true rfl) ?_
          rw [pj_up_up, show m - 1 + 1 = m by omega]
          refine pj_ald0 (q := 29) (pj_d p_X12_areMixes 20 rfl) rfl ?_
          refine pj_gf (q := 32) (k := 18) (pj_d p_X12_areMixes 21 rfl) rfl kX12_31 (by first | assumption | exact pj_up_s | exact (pj_up_n (by omega)).trans (by assumption)) (by rfl) (by rfl) ?_
          refine pj_ild2 (q := 33) (pj_d p_X12_areMixes 22 rfl) rfl ?_
          refine pj_ialdN (q := 34) (pj_d p_X12_areMixes 23 rfl) rfl (by first | assumption | exact pj_up_s | exact (pj_up_n (by omega)).trans (by assumption)) (by rfl) (by first | assumption | omega) (Nat.le_of_ble_eq_true rfl) ?_
          rw [gd_upd_s]
          refine pj_bipush (q := 36) (v := nI 31) (pj_d p_X12_areMixes 24 rfl) rfl (by decide) ?_
          refine pj_icmp_le (t := 45) (q := 39) (pj_d p_X12_areMixes 25 rfl) rfl (by decide) (fun c3 => ?_) (fun c3 => ?_)
          · exact absurd (gd_ge c3 (by omega) (by omega)) (by omega)
          refine pj_iinc2 (q := 42) (v := (-1)) (pj_d p_X12_areMixes 26 rfl) rfl (by first | rfl | assumption) (by decide) ?_
          refine pj_goto (t := 9) (pj_d p_X12_areMixes 27 rfl) (by decide) ?_
          exact hf _ o3 o4 rfl (fun i hi => by rw [gd_upd_n (by omega)]; exact hfr i hi)
        | succ fu ih2 =>
          intro m hm h1 hs hf f o3 o4 hfr hfp
          have m31 : m < 32 := by omega
          refine pj_ild2 (q := 10) (pj_d p_X12_areMixes 7 rfl) rfl ?_
          refine pj_if_lt (t := 121) (q := 13) (pj_d p_X12_areMixes 8 rfl) rfl (by decide) (fun c1 => ?_) (fun c1 => ?_)
          · exact absurd c1 (nI_pos (by omega))
          refine pj_ild2 (q := 14) (pj_d p_X12_areMixes 9 rfl) rfl ?_
          refine pj_ild1 (q := 15) (pj_d p_X12_areMixes 10 rfl) rfl ?_
          refine pj_icmp_ge (t := 121) (q := 18) (pj_d p_X12_areMixes 11 rfl) rfl (by decide) (fun c2 => ?_) (fun c2 => ?_)
          · exact absurd (gd_ge c2 (by omega) (by omega)) (by omega)
          refine pj_ald0 (q := 19) (pj_d p_X12_areMixes 12 rfl) rfl ?_
          refine pj_gf (q := 22) (k := 18) (pj_d p_X12_areMixes 13 rfl) rfl kX12_31 (by first | assumption | exact pj_up_s | exact (pj_up_n (by omega)).trans (by assumption)) (by rfl) (by rfl) ?_
          refine pj_ild2 (q := 23) (pj_d p_X12_areMixes 14 rfl) rfl ?_
          refine pj_dup2 (q := 24) (pj_d p_X12_areMixes 15 rfl) rfl rfl rfl ?_
          refine pj_ialdN (q := 25) (pj_d p_X12_areMixes 16 rfl) rfl (by first | assumption | exact pj_up_s | exact (pj_up_n (by omega)).trans (by assumption)) (by rfl) (by first | assumption | omega) (Nat.le_of_ble_eq_true rfl) ?_
          rw [hfp]
          refine pj_iconst (q := 26) (v := nI 1) (pj_d p_X12_areMixes 17 rfl) rfl (by decide) ?_
          refine pj_iadd (q := 27) (pj_d p_X12_areMixes 18 rfl) rfl ?_
          rw [nI_add]
          refine pj_iast (q := 28) (pj_d p_X12_areMixes 19 rfl) rfl (by first | assumption | exact pj_up_s | exact (pj_up_n (by omega)).trans (by assumption)) (by rfl) (by first | assumption | omega) (Nat.le_of_ble_eq_true rfl) ?_
          rw [pj_up_up, show m - 1 + 1 = m by omega]
          refine pj_ald0 (q := 29) (pj_d p_X12_areMixes 20 rfl) rfl ?_
          refine pj_gf (q := 32) (k := 18) (pj_d p_X12_areMixes 21 rfl) rfl kX12_31 (by first | assumption | exact pj_up_s | exact (pj_up_n (by omega)).trans (by assumption)) (by rfl) (by rfl) ?_
          refine pj_ild2 (q := 33) (pj_d p_X12_areMixes 22 rfl) rfl ?_
          refine pj_ialdN (q := 34) (pj_d p_X12_areMixes 23 rfl) rfl (by first | assumption | exact pj_up_s | exact (pj_up_n (by omega)).trans (by assumption)) (by rfl) (by first | assumption | omega) (Nat.le_of_ble_eq_true rfl) ?_
          rw [gd_upd_s]
          refine pj_bipush (q := 36) (v := nI 31) (pj_d p_X12_areMixes 24 rfl) rfl (by decide) ?_
          refine pj_icmp_le (t := 45) (q := 39) (pj_d p_X12_areMixes 25 rfl) rfl (by decide) (fun c3 => ?_) (fun c3 => ?_)
          rotate_left
          · exact absurd (nI_le (a := m) (b := 31) (by omega) (by omega)) c3
          have hM1 : pj_up h (g + 8) (.inl (0, 6, .inl (upd f p (nI m)))) g = some (.inr (11, gd_Mo g v)) := (pj_up_n (by omega)).trans hM
          have hT1 : pj_up h (g + 8) (.inl (0, 6, .inl (upd f p (nI m)))) (g + 4) = some (.inl (0, 56, .inl (fun j => nI (τ j)))) := (pj_up_n (by omega)).trans hT
          have rest : pj_V E B l Y_X12_areMixes 3 0 0 92 [some (.ref g), some (.int (nI N)), some (.int (nI p)), some (.int (gd_b (gd_apr τ r m p))), some (.int (nI p))] [] (pj_up h (g + 8) (.inl (0, 6, .inl (upd f p (nI m))))) n 0 0 (fun r1 h' n' => r1 = some (.int (gd_b (gd_fil τ N 0 (fun _ => 0)).isSome)) ∧ n' = n ∧ ∃ f', h' = pj_up h (g + 8) (.inl (0, 6, .inl f')) ∧ ∀ q, gd_fil τ N 0 (fun _ => 0) = some q → ∀ i, i < N → f' i = nI (q i)) := by
            refine pj_ild3 (q := 93) (pj_d p_X12_areMixes 54 rfl) rfl ?_
            refine pj_if_eq (t := 118) (q := 96) (pj_d p_X12_areMixes 55 rfl) rfl (by decide) (fun c7 => ?_) (fun c7 => ?_)
            · have e := (gd_b_z _).mp c7
              refine pj_goto (t := 9) (pj_d p_X12_areMixes 70 rfl) (by decide) ?_
              exact ih2 (m + 1) (by omega) (by omega) (fun q f o3 o4 z => hs q f o3 o4 ((gd_try_no e).trans z)) (fun f o3 o4 z => hf f o3 o4 ((gd_try_no e).trans z)) _ _ _ (fun i hi => by rw [gd_upd_n (by omega)]; exact hfr i hi) (by rw [gd_upd_s]; rfl)
            have e := (gd_b_n _).mp c7
            have up := ih (p + 1) (gd_set r p m) (by omega) (fun i hi => by
              by_cases q : i = p
              · rw [q, gd_set_s]; exact m31
              · rw [gd_set_n q]; exact hr i (by omega)) (fun q f o3 o4 z => hs q f o3 o4 (gd_try_yes e z)) (fun f o3 o4 z hz => by
              rw [gd_m1]
              exact ih2 (m + 1) (by omega) (by omega) (fun q f o3 o4 y => hs q f o3 o4 ((gd_try_on e z).trans y)) (fun f o3 o4 y => hf f o3 o4 ((gd_try_on e z).trans y)) f o3 o4 (fun i hi => by rw [hz i (by omega), gd_set_n (by omega)]) (by rw [hz p (by omega), gd_set_s]; rfl))
            refine pj_iinc2 (q := 99) (v := 1) (pj_d p_X12_areMixes 56 rfl) rfl (by first | rfl | assumption) (by decide) ?_
            rw [nI_1]
            refine pj_ild2 (q := 100) (pj_d p_X12_areMixes 57 rfl) rfl ?_
            refine pj_ild1 (q := 101) (pj_d p_X12_areMixes 58 rfl) rfl ?_
            refine pj_icmp_ge (t := 118) (q := 104) (pj_d p_X12_areMixes 59 rfl) rfl (by decide) (fun c8 => ?_) (fun c8 => ?_)
            · have := gd_ge c8 (by omega) (by omega)
              refine pj_goto (t := 9) (pj_d p_X12_areMixes 70 rfl) (by decide) ?_
              exact up _ _ _ (fun i hi => by
                by_cases q : i = p
                · rw [q, gd_upd_s, gd_set_s]
                · rw [gd_upd_n q, gd_set_n q]; exact hfr i (by omega)) (fun q => by omega)
            · have hlt := gd_lt c8 (by omega)
              have q6 : p + 1 < 6 := by omega
              refine pj_ald0 (q := 105) (pj_d p_X12_areMixes 60 rfl) rfl ?_
              refine pj_gf (q := 108) (k := 18) (pj_d p_X12_areMixes 61 rfl) rfl kX12_31 (by first | assumption | exact pj_up_s | exact (pj_up_n (by omega)).trans (by assumption)) (by rfl) (by rfl) ?_
              refine pj_ild2 (q := 109) (pj_d p_X12_areMixes 62 rfl) rfl ?_
              refine pj_ald0 (q := 110) (pj_d p_X12_areMixes 63 rfl) rfl ?_
              refine pj_gf (q := 113) (k := 18) (pj_d p_X12_areMixes 64 rfl) rfl kX12_31 (by first | assumption | exact pj_up_s | exact (pj_up_n (by omega)).trans (by assumption)) (by rfl) (by rfl) ?_
              refine pj_ild2 (q := 114) (pj_d p_X12_areMixes 65 rfl) rfl ?_
              refine pj_iconst (q := 115) (v := nI 1) (pj_d p_X12_areMixes 66 rfl) rfl (by decide) ?_
              refine pj_isub (q := 116) (pj_d p_X12_areMixes 67 rfl) rfl ?_
              rw [gd_sub (by omega), show p + 1 - 1 = p by omega]
              refine pj_ialdN (q := 117) (pj_d p_X12_areMixes 68 rfl) rfl (by first | assumption | exact pj_up_s | exact (pj_up_n (by omega)).trans (by assumption)) (by rfl) (by first | assumption | omega) (Nat.le_of_ble_eq_true rfl) ?_
              rw [gd_upd_s]
              refine pj_iast (q := 118) (pj_d p_X12_areMixes 69 rfl) rfl (by first | assumption | exact pj_up_s | exact (pj_up_n (by omega)).trans (by assumption)) (by rfl) (by first | assumption | omega) (Nat.le_of_ble_eq_true rfl) ?_
              rw [pj_up_up]
              refine pj_goto (t := 9) (pj_d p_X12_areMixes 70 rfl) (by decide) ?_
              exact up _ _ _ (fun i hi => by
                rw [gd_upd_n (by omega)]
                by_cases q : i = p
                · rw [q, gd_upd_s, gd_set_s]
                · rw [gd_upd_n q, gd_set_n q]; exact hfr i (by omega)) (fun _ => by rw [gd_upd_s, gd_lst, if_neg (by omega), show p + 1 - 1 = p by omega, gd_set_s])
          refine pj_iconst (q := 46) (v := nI 1) (pj_d p_X12_areMixes 28 rfl) rfl (by decide) ?_
          refine pj_ist3 (q := 47) (pj_d p_X12_areMixes 29 rfl) rfl (by first | rfl | assumption) ?_
          refine pj_iconst (q := 48) (v := nI 0) (pj_d p_X12_areMixes 30 rfl) rfl (by decide) ?_
          refine pj_ist4 (q := 50) (pj_d p_X12_areMixes 31 rfl) rfl (by first | rfl | assumption) ?_
          have good : ∀ m2 i, p - i < m2 → i ≤ p → pj_V E B l Y_X12_areMixes 3 0 0 50 [some (.ref g), some (.int (nI N)), some (.int (nI p)), some (.int (gd_b (gd_apr τ r m i))), some (.int (nI i))] [] (pj_up h (g + 8) (.inl (0, 6, .inl (upd f p (nI m))))) n 0 0 (fun r1 h' n' => r1 = some (.int (gd_b (gd_fil τ N 0 (fun _ => 0)).isSome)) ∧ n' = n ∧ ∃ f', h' = pj_up h (g + 8) (.inl (0, 6, .inl f')) ∧ ∀ q, gd_fil τ N 0 (fun _ => 0) = some q → ∀ i, i < N → f' i = nI (q i)) := by
            intro m2
            induction m2 with
            | zero => intro i hi; omega
            | succ m2 ih3 =>
              intro i hi hle
              refine pj_ild4 (q := 52) (pj_d p_X12_areMixes 32 rfl) rfl ?_
              refine pj_ild2 (q := 53) (pj_d p_X12_areMixes 33 rfl) rfl ?_
              refine pj_icmp_ge (t := 92) (q := 56) (pj_d p_X12_areMixes 34 rfl) rfl (by decide) (fun c4 => ?_) (fun c4 => ?_)
              · have he : i = p := by have := gd_ge c4 (by omega) (by omega); omega
                rw [he]
                exact rest
              have hlt : i < p := gd_lt c4 (by omega)
              have i6 : i < 6 := by omega
              have nx : ∀ z, z = gd_apr τ r m (i + 1) → pj_V E B l Y_X12_areMixes 3 0 0 85 [some (.ref g), some (.int (nI N)), some (.int (nI p)), some (.int (gd_b (gd_apr τ r m i))), some (.int (nI i))] [.int (gd_b z)] (pj_up h (g + 8) (.inl (0, 6, .inl (upd f p (nI m))))) n 0 0 (fun r1 h' n' => r1 = some (.int (gd_b (gd_fil τ N 0 (fun _ => 0)).isSome)) ∧ n' = n ∧ ∃ f', h' = pj_up h (g + 8) (.inl (0, 6, .inl f')) ∧ ∀ q, gd_fil τ N 0 (fun _ => 0) = some q → ∀ i, i < N → f' i = nI (q i)) := by
                intro z hz
                subst hz
                refine pj_ist3 (q := 86) (pj_d p_X12_areMixes 51 rfl) rfl (by first | rfl | assumption) ?_
                refine pj_iinc4 (q := 89) (v := 1) (pj_d p_X12_areMixes 52 rfl) rfl (by first | rfl | assumption) (by decide) ?_
                refine pj_goto (t := 50) (pj_d p_X12_areMixes 53 rfl) (by decide) ?_
                rw [nI_1]
                exact ih3 (i + 1) (by omega) (by omega)
              refine pj_ild3 (q := 57) (pj_d p_X12_areMixes 35 rfl) rfl ?_
              refine pj_if_eq (t := 84) (q := 60) (pj_d p_X12_areMixes 36 rfl) rfl (by decide) (fun c5 => ?_) (fun c5 => ?_)
              · have e := (gd_b_z _).mp c5
                refine pj_iconst (q := 85) (v := nI 0) (pj_d p_X12_areMixes 50 rfl) rfl (by decide) ?_
                exact nx false (by rw [gd_apr, e, Bool.false_and])
              have e := (gd_b_n _).mp c5
              refine pj_ald0 (q := 61) (pj_d p_X12_areMixes 37 rfl) rfl ?_
              refine pj_ald0 (q := 62) (pj_d p_X12_areMixes 38 rfl) rfl ?_
              refine pj_gf (q := 65) (k := 18) (pj_d p_X12_areMixes 39 rfl) rfl kX12_31 (by first | assumption | exact pj_up_s | exact (pj_up_n (by omega)).trans (by assumption)) (by rfl) (by rfl) ?_
              refine pj_ild4 (q := 67) (pj_d p_X12_areMixes 40 rfl) rfl ?_
              refine pj_ialdN (q := 68) (pj_d p_X12_areMixes 41 rfl) rfl (by first | assumption | exact pj_up_s | exact (pj_up_n (by omega)).trans (by assumption)) (by rfl) (by first | assumption | omega) (Nat.le_of_ble_eq_true rfl) ?_
              rw [gd_upd_n (by omega), hfr i hlt]
              refine pj_ald0 (q := 69) (pj_d p_X12_areMixes 42 rfl) rfl ?_
              refine pj_gf (q := 72) (k := 18) (pj_d p_X12_areMixes 43 rfl) rfl kX12_31 (by first | assumption | exact pj_up_s | exact (pj_up_n (by omega)).trans (by assumption)) (by rfl) (by rfl) ?_
              refine pj_ild2 (q := 73) (pj_d p_X12_areMixes 44 rfl) rfl ?_
              refine pj_ialdN (q := 74) (pj_d p_X12_areMixes 45 rfl) rfl (by first | assumption | exact pj_up_s | exact (pj_up_n (by omega)).trans (by assumption)) (by rfl) (by first | assumption | omega) (Nat.le_of_ble_eq_true rfl) ?_
              rw [gd_upd_s]
              refine pj_cp (pj_rV (q := 77) (c_X12_areApart hM1 hT1 hW (hr i hlt) m31) (pj_d p_X12_areMixes 46 rfl) rfl kX12_208 o_X12_areApart (by first | assumption | exact pj_up_s | exact (pj_up_n (by omega)).trans (by assumption)) (by rfl) (by rfl) (by rfl) (by rfl) (Nat.le_of_ble_eq_true rfl) (by decide)) (by decide) (by decide) ?_
              refine pj_if_eq (t := 84) (q := 80) (pj_d p_X12_areMixes 47 rfl) rfl (by decide) (fun c6 => ?_) (fun c6 => ?_)
              · have e2 := (gd_b_z _).mp c6
                refine pj_iconst (q := 85) (v := nI 0) (pj_d p_X12_areMixes 50 rfl) rfl (by decide) ?_
                exact nx false (by rw [gd_apr, e2, Bool.and_false])
              · have e2 := (gd_b_n _).mp c6
                refine pj_iconst (q := 81) (v := nI 1) (pj_d p_X12_areMixes 48 rfl) rfl (by decide) ?_
                refine pj_goto (t := 85) (pj_d p_X12_areMixes 49 rfl) (by decide) ?_
                exact nx true (by rw [gd_apr, e, e2]; rfl)
          exact good (p + 1) 0 (by omega) (by omega)
      have lb : gd_lst p r < 32 := by
        rw [gd_lst]
        split
        · omega
        · exact hr (p - 1) (by omega)
      intro f o3 o4 hfr hfl
      exact inner (31 - gd_lst p r) (gd_lst p r + 1) (by omega) (by omega) hs hf f o3 o4 hfr (hfl (by omega))
  refine lvl N 0 (fun _ => 0) (by omega) (fun i hi => absurd hi (Nat.not_lt_zero i)) ?_ ?_ (upd f8 0 (nI 0)) none none (fun i hi => absurd hi (Nat.not_lt_zero i)) (fun _ => gd_upd_s)
  · intro q f o3 o4 e hq
    refine pj_ild2 (q := 10) (pj_d p_X12_areMixes 7 rfl) rfl ?_
    refine pj_if_lt (t := 121) (q := 13) (pj_d p_X12_areMixes 8 rfl) rfl (by decide) (fun c1 => ?_) (fun c1 => ?_)
    · exact absurd c1 (nI_pos (by omega))
    refine pj_ild2 (q := 14) (pj_d p_X12_areMixes 9 rfl) rfl ?_
    refine pj_ild1 (q := 15) (pj_d p_X12_areMixes 10 rfl) rfl ?_
    refine pj_icmp_ge (t := 121) (q := 18) (pj_d p_X12_areMixes 11 rfl) rfl (by decide) (fun c2 => ?_) (fun c2 => ?_)
    rotate_left
    · exact absurd (gd_lt c2 (by omega)) (by omega)
    refine pj_ild2 (q := 122) (pj_d p_X12_areMixes 71 rfl) rfl ?_
    refine pj_ild1 (q := 123) (pj_d p_X12_areMixes 72 rfl) rfl ?_
    refine pj_icmp_ne (t := 130) (q := 126) (pj_d p_X12_areMixes 73 rfl) rfl (by decide) (fun c3 => ?_) (fun c3 => ?_)
    · exact absurd rfl c3
    rw [e]
    refine pj_iconst (q := 127) (v := nI 1) (pj_d p_X12_areMixes 74 rfl) rfl (by decide) ?_
    refine pj_goto (t := 131) (pj_d p_X12_areMixes 75 rfl) (by decide) ?_
    refine pj_zret rfl (by first | rfl | decide | (split <;> rfl)) (pj_d p_X12_areMixes 77 rfl) (by decide) (by decide) ?_
    exact ⟨rfl, rfl, f, rfl, fun z hz => by cases hz; exact hq⟩
  · intro f o3 o4 e hq
    refine pj_ild2 (q := 10) (pj_d p_X12_areMixes 7 rfl) rfl ?_
    refine pj_if_lt (t := 121) (q := 13) (pj_d p_X12_areMixes 8 rfl) rfl (by decide) (fun c1 => ?_) (fun c1 => ?_)
    rotate_left
    · exact absurd (show nI 0 + (-1) < 0 by decide) c1
    refine pj_ild2 (q := 122) (pj_d p_X12_areMixes 71 rfl) rfl ?_
    refine pj_ild1 (q := 123) (pj_d p_X12_areMixes 72 rfl) rfl ?_
    refine pj_icmp_ne (t := 130) (q := 126) (pj_d p_X12_areMixes 73 rfl) rfl (by decide) (fun c3 => ?_) (fun c3 => ?_)
    rotate_left
    · have t : (nI 0 + (-1)).toInt = -1 := by decide
      rw [c3, nI_toInt (by omega)] at t
      omega
    rw [e]
    refine pj_iconst (q := 131) (v := nI 0) (pj_d p_X12_areMixes 76 rfl) rfl (by decide) ?_
    refine pj_zret rfl (by first | rfl | decide | (split <;> rfl)) (pj_d p_X12_areMixes 77 rfl) (by decide) (by decide) ?_
    exact ⟨rfl, rfl, f, rfl, fun z hz => by cases hz⟩
theorem c_X12_dyes {f8 : Nat → Int32} (hR : gd_MR h g v τ) (h8 : h (g + 8) = some (.inl (0, 6, .inl f8))) (x y : Int32) : pj_Ct E B l Y_X12_dyes 4 0 0 [.ref g, .int x, .int y] h n (gd_sr (sp_dyes τ x y) h (g + 8) 6 n) := by
  obtain ⟨hM, hT, hv, hW, h1⟩ := hR
  have h7 := hW.1
  refine pj_in rfl (ls := [some (.ref g), some (.int (x)), some (.int (y)), none, none, none]) rfl (Nat.le_of_ble_eq_true rfl) ?_
  refine gd_thr (pj_d p_X12_dyes 0 rfl) (pj_d p_X12_dyes 1 rfl) (pj_d p_X12_dyes 2 rfl) rfl hM hv ?_
  refine pj_ald0 (q := 6) (pj_d p_X12_dyes 3 rfl) rfl ?_
  refine pj_cp (pj_rV (q := 9) (c_X12_isThere hM hT h1) (pj_d p_X12_dyes 4 rfl) rfl kX12_176 o_X12_isThere (by first | assumption | exact pj_up_s | exact (pj_up_n (by omega)).trans (by assumption)) (by rfl) (by rfl) (by rfl) (by rfl) (Nat.le_of_ble_eq_true rfl) (by decide)) (by decide) (by decide) ?_
  refine pj_if_ne (t := 15) (q := 12) (pj_d p_X12_dyes 5 rfl) rfl (by decide) (fun c1 => ?_) (fun c1 => ?_)
  rotate_left
  · have ht := gd_dec_f c1
    refine pj_ldc (q := 14) (pj_d p_X12_dyes 6 rfl) rfl kX12_179 ?_
    refine pj_iret rfl (pj_d p_X12_dyes 7 rfl) (by decide) (by decide) ?_
    exact gd_sr_same h8 (by simp [sp_dyes, ht])
  have ht := gd_dec_t c1
  have bad : ¬ (gd_rng x 1 6 = true ∧ gd_rng y (-1) (x.toInt - 1) = true) → pj_V E B l Y_X12_dyes 4 0 0 42 [some (.ref g), some (.int x), some (.int y), none, none, none] [] h n 0 0 (gd_sr (sp_dyes τ x y) h (g + 8) 6 n) := by
    intro hn
    refine pj_ldc (q := 44) (pj_d p_X12_dyes 23 rfl) rfl kX12_67 ?_
    refine pj_iret rfl (pj_d p_X12_dyes 24 rfl) (by decide) (by decide) ?_
    exact gd_sr_same h8 (by rw [sp_dyes, if_pos ht, if_neg hn])
  refine pj_ild1 (q := 16) (pj_d p_X12_dyes 8 rfl) rfl ?_
  refine pj_i2l (q := 17) (pj_d p_X12_dyes 9 rfl) rfl ?_
  refine pj_lconst (q := 18) (v := lN 1) (pj_d p_X12_dyes 10 rfl) rfl (by decide) ?_
  refine pj_ldc2 (q := 21) (pj_d p_X12_dyes 11 rfl) rfl kX12_187 ?_
  refine pj_cp (pj_rS (q := 24) (c_X12_in x (lN 1) 6 1 6 (by decide) (by decide)) (pj_d p_X12_dyes 12 rfl) rfl kX12_57 o_X12_in (by rfl) (by rfl) (Nat.le_of_ble_eq_true rfl) (by decide)) (by decide) (by decide) ?_
  refine pj_if_eq (t := 42) (q := 27) (pj_d p_X12_dyes 13 rfl) rfl (by decide) (fun c2 => ?_) (fun c2 => ?_)
  · exact bad (fun q => by rw [(gd_b_z _).mp c2] at q; exact absurd q.1 (by decide))
  have e1 := (gd_b_n _).mp c2
  obtain ⟨N, hN1, hN, rfl, hd⟩ := gd_rng_of1 (hi := 6) e1
  have nN : (nI N).toInt = N := nI_toInt (by omega)
  refine pj_ild2 (q := 28) (pj_d p_X12_dyes 14 rfl) rfl ?_
  refine pj_i2l (q := 29) (pj_d p_X12_dyes 15 rfl) rfl ?_
  refine pj_ldc2 (q := 32) (pj_d p_X12_dyes 16 rfl) rfl kX12_211 ?_
  refine pj_ild1 (q := 33) (pj_d p_X12_dyes 17 rfl) rfl ?_
  refine pj_iconst (q := 34) (v := nI 1) (pj_d p_X12_dyes 18 rfl) rfl (by decide) ?_
  refine pj_isub (q := 35) (pj_d p_X12_dyes 19 rfl) rfl ?_
  refine pj_i2l (q := 36) (pj_d p_X12_dyes 20 rfl) rfl ?_
  refine pj_cp (pj_rS (q := 39) (c_X12_in y (-1) (nI N - nI 1).toInt64 (-1) ((N : Int) - 1) (by decide) (gd_cm1 (by omega))) (pj_d p_X12_dyes 21 rfl) rfl kX12_57 o_X12_in (by rfl) (by rfl) (Nat.le_of_ble_eq_true rfl) (by decide)) (by decide) (by decide) ?_
  rw [← nN]
  refine pj_if_ne (t := 45) (q := 42) (pj_d p_X12_dyes 22 rfl) rfl (by decide) (fun c3 => ?_) (fun c3 => ?_)
  rotate_left
  · exact bad (fun q => by rw [(gd_b_z _).mp c3] at q; exact absurd q.2 (by decide))
  have e2 := (gd_b_n _).mp c3
  have e3 := e2
  rw [gd_rng, decide_eq_true_eq] at e3
  refine pj_ild2 (q := 46) (pj_d p_X12_dyes 25 rfl) rfl ?_
  refine pj_if_lt (t := 69) (q := 49) (pj_d p_X12_dyes 26 rfl) rfl (by decide) (fun c5 => ?_) (fun c5 => ?_)
  · rw [Int32.lt_iff_toInt_lt, show (0 : Int32).toInt = 0 by decide] at c5
    have hsp : sp_dyes τ (nI N) y = nI (gd_dp τ) := by rw [sp_dyes, if_pos ht, if_pos ⟨e1, e2⟩, if_pos (by omega)]
    rw [hsp]
    refine pj_iconst (q := 70) (v := nI 0) (pj_d p_X12_dyes 38 rfl) rfl (by decide) ?_
    refine pj_ist3 (q := 71) (pj_d p_X12_dyes 39 rfl) rfl (by first | rfl | assumption) ?_
    refine pj_iconst (q := 72) (v := nI 1) (pj_d p_X12_dyes 40 rfl) rfl (by decide) ?_
    refine pj_ist4 (q := 74) (pj_d p_X12_dyes 41 rfl) rfl (by first | rfl | assumption) ?_
    have loop : ∀ m i (o5 : Option Value), 31 - i < m → i ≤ 31 → pj_V E B l Y_X12_dyes 4 0 0 74 [some (.ref g), some (.int (nI N)), some (.int y), some (.int (nI (gd_sm (gd_dpc τ) i))), some (.int (nI (i + 1))), o5] [] h n 0 0 (gd_sr (nI (gd_dp τ)) h (g + 8) 6 n) := by
      intro m
      induction m with
      | zero => intro i o5 hi; omega
      | succ m ih =>
        intro i o5 hi hle
        refine pj_ild4 (q := 76) (pj_d p_X12_dyes 42 rfl) rfl ?_
        refine pj_bipush (q := 78) (v := nI 32) (pj_d p_X12_dyes 43 rfl) rfl (by decide) ?_
        refine pj_icmp_ge (t := 125) (q := 81) (pj_d p_X12_dyes 44 rfl) rfl (by decide) (fun c6 => ?_) (fun c6 => ?_)
        · have he : i = 31 := by have := gd_ge c6 (by omega) (by omega); omega
          rw [he]
          refine pj_ild3 (q := 126) (pj_d p_X12_dyes 67 rfl) rfl ?_
          refine pj_iret rfl (pj_d p_X12_dyes 68 rfl) (by decide) (by decide) ?_
          exact gd_sr_same h8 rfl
        have hlt : i < 31 := by have := gd_lt c6 (by omega); omega
        have inner : ∀ m2 j, 30 - i - j < m2 → j ≤ 30 - i → pj_V E B l Y_X12_dyes 4 0 0 87 [some (.ref g), some (.int (nI N)), some (.int y), some (.int (nI (gd_sm (gd_dpc τ) i + gd_sm (gd_dpe τ i) j))), some (.int (nI (i + 1))), some (.int (nI (i + 2 + j)))] [] h n 0 0 (gd_sr (nI (gd_dp τ)) h (g + 8) 6 n) := by
          intro m2
          induction m2 with
          | zero => intro j hi; omega
          | succ m2 ih2 =>
            intro j hj hjle
            refine pj_ild5 (q := 89) (pj_d p_X12_dyes 49 rfl) rfl ?_
            refine pj_bipush (q := 91) (v := nI 32) (pj_d p_X12_dyes 50 rfl) rfl (by decide) ?_
            refine pj_icmp_ge (t := 119) (q := 94) (pj_d p_X12_dyes 51 rfl) rfl (by decide) (fun c7 => ?_) (fun c7 => ?_)
            · have he : j = 30 - i := by have := gd_ge c7 (by omega) (by omega); omega
              rw [he]
              refine pj_iinc4 (q := 122) (v := 1) (pj_d p_X12_dyes 65 rfl) rfl (by first | rfl | assumption) (by decide) ?_
              refine pj_goto (t := 74) (pj_d p_X12_dyes 66 rfl) (by decide) ?_
              rw [nI_1]
              exact ih (i + 1) _ (by omega) (by omega)
            have hlt2 : i + 2 + j < 32 := gd_lt c7 (by omega)
            have nx : ∀ x, x = gd_dpe τ i j → pj_V E B l Y_X12_dyes 4 0 0 111 [some (.ref g), some (.int (nI N)), some (.int y), some (.int (nI (gd_sm (gd_dpc τ) i + gd_sm (gd_dpe τ i) j))), some (.int (nI (i + 1))), some (.int (nI (i + 2 + j)))] [.int (nI x), .int (nI (gd_sm (gd_dpc τ) i + gd_sm (gd_dpe τ i) j))] h n 0 0 (gd_sr (nI (gd_dp τ)) h (g + 8) 6 n) := by
              intro x hx
              rw [hx]
              refine pj_iadd (q := 112) (pj_d p_X12_dyes 61 rfl) rfl ?_
              rw [nI_add, show gd_sm (gd_dpc τ) i + gd_sm (gd_dpe τ i) j + gd_dpe τ i j = gd_sm (gd_dpc τ) i + gd_sm (gd_dpe τ i) (j + 1) from Nat.add_assoc _ _ _]
              refine pj_ist3 (q := 113) (pj_d p_X12_dyes 62 rfl) rfl (by first | rfl | assumption) ?_
              refine pj_iinc5 (q := 116) (v := 1) (pj_d p_X12_dyes 63 rfl) rfl (by first | rfl | assumption) (by decide) ?_
              refine pj_goto (t := 87) (pj_d p_X12_dyes 64 rfl) (by decide) ?_
              rw [nI_1]
              exact ih2 (j + 1) (by omega) (by omega)
            refine pj_ild3 (q := 95) (pj_d p_X12_dyes 52 rfl) rfl ?_
            refine pj_ald0 (q := 96) (pj_d p_X12_dyes 53 rfl) rfl ?_
            refine pj_ild4 (q := 98) (pj_d p_X12_dyes 54 rfl) rfl ?_
            refine pj_ild5 (q := 100) (pj_d p_X12_dyes 55 rfl) rfl ?_
            refine pj_cp (pj_rV (q := 103) (c_X12_areApart hM hT hW (a := i + 1) (b := i + 2 + j) (by omega) hlt2) (pj_d p_X12_dyes 56 rfl) rfl kX12_208 o_X12_areApart (by first | assumption | exact pj_up_s | exact (pj_up_n (by omega)).trans (by assumption)) (by rfl) (by rfl) (by rfl) (by rfl) (Nat.le_of_ble_eq_true rfl) (by decide)) (by decide) (by decide) ?_
            refine pj_if_eq (t := 110) (q := 106) (pj_d p_X12_dyes 57 rfl) rfl (by decide) (fun c8 => ?_) (fun c8 => ?_)
            · have e := (gd_b_z _).mp c8
              refine pj_iconst (q := 111) (v := nI 0) (pj_d p_X12_dyes 60 rfl) rfl (by decide) ?_
              exact nx 0 (by rw [gd_dpe, e, if_neg (by decide)])
            · have e := (gd_b_n _).mp c8
              refine pj_iconst (q := 107) (v := nI 1) (pj_d p_X12_dyes 58 rfl) rfl (by decide) ?_
              refine pj_goto (t := 111) (pj_d p_X12_dyes 59 rfl) (by decide) ?_
              exact nx 1 (by rw [gd_dpe, e, if_pos rfl])
        refine pj_ild4 (q := 83) (pj_d p_X12_dyes 45 rfl) rfl ?_
        refine pj_iconst (q := 84) (v := nI 1) (pj_d p_X12_dyes 46 rfl) rfl (by decide) ?_
        refine pj_iadd (q := 85) (pj_d p_X12_dyes 47 rfl) rfl ?_
        rw [nI_add]
        refine pj_ist5 (q := 87) (pj_d p_X12_dyes 48 rfl) rfl (by first | rfl | assumption) ?_
        exact inner (31 - i) 0 (by omega) (by omega)
    exact loop 32 0 none (by omega) (by omega)
  · rw [Int32.lt_iff_toInt_lt, show (0 : Int32).toInt = 0 by decide] at c5
    obtain ⟨j, hj, rfl⟩ := nI_of (x := y) (by rw [Int32.lt_iff_toInt_lt, show (0 : Int32).toInt = 0 by decide]; omega)
    have nj : (nI j).toInt = j := nI_toInt hj
    have jN : j < N := by omega
    have j6 : j < 6 := by omega
    have hsp : sp_dyes τ (nI N) (nI j) = gd_dk τ N j := by rw [sp_dyes, if_pos ht, if_pos ⟨e1, e2⟩, if_neg (by omega), hd, nI_clamp (n := j) (by omega)]
    rw [hsp]
    refine pj_ald0 (q := 50) (pj_d p_X12_dyes 27 rfl) rfl ?_
    refine pj_ild1 (q := 51) (pj_d p_X12_dyes 28 rfl) rfl ?_
    refine pj_cv (pj_rV (q := 54) (c_X12_areMixes hM hT hW h8 hN hN1) (pj_d p_X12_dyes 29 rfl) rfl kX12_213 o_X12_areMixes (by first | assumption | exact pj_up_s | exact (pj_up_n (by omega)).trans (by assumption)) (by rfl) (by rfl) (by rfl) (by rfl) (Nat.le_of_ble_eq_true rfl) (by decide)) (by decide) (by decide) ?_
    rintro r1 h1 n1 ⟨rfl, rfl, f3, rfl, g2⟩
    rw [gd_dk]
    refine pj_if_eq (t := 66) (q := 57) (pj_d p_X12_dyes 30 rfl) rfl (by decide) (fun c6 => ?_) (fun c6 => ?_)
    · cases e5 : gd_fil τ N 0 (fun _ => 0) with
      | none =>
        refine pj_ldc (q := 68) (pj_d p_X12_dyes 36 rfl) rfl kX12_90 ?_
        refine pj_iret rfl (pj_d p_X12_dyes 37 rfl) (by decide) (by decide) ?_
        exact ⟨rfl, rfl, f3, rfl⟩
      | some q => rw [e5] at c6; exact absurd c6 (show ¬ gd_b true = 0 by decide)
    · cases e5 : gd_fil τ N 0 (fun _ => 0) with
      | none => rw [e5] at c6; exact absurd rfl c6
      | some q =>
        refine pj_ald0 (q := 58) (pj_d p_X12_dyes 31 rfl) rfl ?_
        refine pj_gf (q := 61) (k := 18) (pj_d p_X12_dyes 32 rfl) rfl kX12_31 (by first | assumption | exact pj_up_s | exact (pj_up_n (by omega)).trans (by assumption)) (by rfl) (by rfl) ?_
        refine pj_ild2 (q := 62) (pj_d p_X12_dyes 33 rfl) rfl ?_
        refine pj_ialdN (q := 63) (pj_d p_X12_dyes 34 rfl) rfl (by first | assumption | exact pj_up_s | exact (pj_up_n (by omega)).trans (by assumption)) (by rfl) (by first | assumption | omega) (Nat.le_of_ble_eq_true rfl) ?_
        rw [g2 q e5 j jN]
        refine pj_goto (t := 68) (pj_d p_X12_dyes 35 rfl) (by decide) ?_
        refine pj_iret rfl (pj_d p_X12_dyes 37 rfl) (by decide) (by decide) ?_
        exact ⟨rfl, rfl, f3, rfl⟩
end
