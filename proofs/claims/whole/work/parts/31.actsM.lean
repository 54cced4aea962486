/-! ===== acts, of the model ===== -/
abbrev gd_TT : Type := (Nat → Nat) × (Nat → Nat → Nat) × Nat
def gd_set (τ : Nat → Nat) (i x : Nat) : Nat → Nat := fun j => if j = i then x else τ j
theorem gd_set_s {τ : Nat → Nat} {i x : Nat} : gd_set τ i x i = x := if_pos rfl
theorem gd_set_n {τ : Nat → Nat} {i x j : Nat} (h : j ≠ i) : gd_set τ i x j = τ j := if_neg h
theorem gd_setI' (τ : Nat → Nat) (i x : Nat) : upd (fun j => nI (τ j)) i (nI x) = fun j => nI (gd_set τ i x j) := by
  funext j
  rw [gd_upd, gd_set]
  split <;> rfl
def gd_kA (t : gd_TT) : Nat → Nat → Nat := fun j k => if t.2.2 = 24 then (if j = 23 then t.1 k else t.2.1 (j + 1) k) else (if j = t.2.2 then t.1 k else t.2.1 j k)
def gd_kn (ac : Nat) : Nat := if ac = 24 then 24 else ac + 1
/-- an act: what was is kept, the numbers change -/
def gd_act (t : gd_TT) (τ' : Nat → Nat) : gd_TT := (τ', gd_kA t, gd_kn t.2.2)
def gd_day1 (t : gd_TT) : gd_TT := gd_act t (gd_set t.1 3 (t.1 3 + 1))
def gd_dn : Nat → gd_TT → gd_TT
  | 0, t => t
  | i + 1, t => gd_day1 (gd_dn i t)
def gd_back (t : gd_TT) : gd_TT := ((fun k => if k < 56 then t.2.1 (t.2.2 - 1) k else t.1 k), t.2.1, t.2.2 - 1)
def sp_days (d : Int32) (t : gd_TT) : Int32 × gd_TT := if t.1 0 = 1 then (if gd_rng d 1 24 then (if t.1 3 + d.toNatClampNeg ≤ 999 then (nI (t.1 3 + d.toNatClampNeg), gd_dn d.toNatClampNeg t) else (-1000003, t)) else (-1000001, t)) else (-1000002, t)
def sp_paint (x m : Int32) (t : gd_TT) : Int32 × gd_TT := if gd_has t.1 x && gd_rng m 0 31 then (if t.1 (11 + 3 * x.toNatClampNeg) < 4 then (nI (t.1 (12 + 3 * x.toNatClampNeg)), gd_act t (gd_set t.1 (12 + 3 * x.toNatClampNeg) m.toNatClampNeg)) else (-1000002, t)) else (-1000001, t)
def sp_miss (w c : Int32) (t : gd_TT) : Int32 × gd_TT := if t.1 0 = 1 then (if gd_rng w 0 6 && gd_rng c 0 5 then (nI (t.1 (4 + w.toNatClampNeg)), gd_act t (gd_set t.1 (4 + w.toNatClampNeg) c.toNatClampNeg)) else (-1000001, t)) else (-1000002, t)
def sp_undo (t : gd_TT) : Int32 × gd_TT := if t.2.2 = 0 then (-1000002, t) else (nI (t.2.2 - 1), gd_back t)
def gd_AM (h : pj_H) (g : Nat) (A : Nat → Nat → Nat) (ac : Nat) : Prop := ∃ f, h (g + 6) = some (.inl (0, 1344, .inl f)) ∧ ∀ j k, j < ac → k < 56 → f (56 * j + k) = nI (A j k)
def gd_PT (x : Int32) (t' : gd_TT) (h : pj_H) (g : Nat) (v : Nat → Int32) (n : Nat) : Option Value → pj_H → Nat → Prop := fun r h' n' => r = some (.int x) ∧ n' = n ∧ h' g = some (.inr (11, gd_Mo g (upd v 8 (nI t'.2.2)))) ∧ h' (g + 4) = some (.inl (0, 56, .inl (fun j => nI (t'.1 j)))) ∧ gd_AM h' g t'.2.1 t'.2.2 ∧ ∀ q, q ≠ g → q ≠ g + 4 → q ≠ g + 6 → h' q = h q
theorem gd_PT_same {h : pj_H} {g n : Nat} {v : Nat → Int32} {t : gd_TT} {x : Int32} (hM : h g = some (.inr (11, gd_Mo g v))) (hT : h (g + 4) = some (.inl (0, 56, .inl (fun j => nI (t.1 j))))) (hA : gd_AM h g t.2.1 t.2.2) (h8 : v 8 = nI t.2.2) {y : Int32 × gd_TT} (e : y = (x, t)) : gd_PT y.1 y.2 h g v n (some (.int x)) h n := by
  subst e
  exact ⟨rfl, rfl, by rw [gd_upd_id h8]; exact hM, hT, hA, fun _ _ _ _ => rfl⟩
section
variable {E : pj_E} {B : Nat} {l : Launch} {h : pj_H} {n g : Nat} {v : Nat → Int32} {t : gd_TT}
theorem c_X12_keep (hM : h g = some (.inr (11, gd_Mo g v))) (hT : h (g + 4) = some (.inl (0, 56, .inl (fun j => nI (t.1 j))))) (hA : gd_AM h g t.2.1 t.2.2) (h8 : v 8 = nI t.2.2) (hac : t.2.2 ≤ 24) : pj_Ct E B l Y_X12_keep 1 0 0 [.ref g] h n (fun r h' n' => r = none ∧ n' = n ∧ h' g = some (.inr (11, gd_Mo g (upd v 8 (nI (gd_kn t.2.2))))) ∧ gd_AM h' g (gd_kA t) (gd_kn t.2.2) ∧ ∀ q, q ≠ g → q ≠ g + 6 → h' q = h q) := by
  obtain ⟨τ, A, ac⟩ := t
  dsimp only at hT hA h8 hac ⊢
  obtain ⟨f, hf, hfA⟩ := hA
  refine pj_in rfl (ls := [some (.ref g), none]) rfl (Nat.le_of_ble_eq_true rfl) ?_
  -- the second half: the numbers are written at the place a, then the count
  have second : ∀ (h1 : pj_H) (v1 : Nat → Int32) (f1 : Nat → Int32) (a : Nat) o1, a < 24 → pj_c1 o1 = true → h1 g = some (.inr (11, gd_Mo g v1)) → v1 8 = nI a → upd v1 8 (nI (a + 1)) = upd v 8 (nI (gd_kn ac)) → h1 (g + 4) = some (.inl (0, 56, .inl (fun j => nI (τ j)))) → h1 (g + 6) = some (.inl (0, 1344, .inl f1)) → (∀ q, q ≠ g → q ≠ g + 6 → h1 q = h q) → a + 1 = gd_kn ac → (∀ j k, j < a → k < 56 → f1 (56 * j + k) = nI (gd_kA (τ, A, ac) j k)) → (∀ k, k < 56 → gd_kA (τ, A, ac) a k = τ k) → pj_V E B l Y_X12_keep 1 0 0 49 [some (.ref g), o1] [] h1 n 0 0 (fun r h' n' => r = none ∧ n' = n ∧ h' g = some (.inr (11, gd_Mo g (upd v 8 (nI (gd_kn ac))))) ∧ gd_AM h' g (gd_kA (τ, A, ac)) (gd_kn ac) ∧ ∀ q, q ≠ g → q ≠ g + 6 → h' q = h q) := by
    intro h1 v1 f1 a o1 ha k1 hM1 hv1 hvv hT1 hf1 hq1 hkn hold hnew
    refine pj_iconst (q := 50) (v := nI 0) (pj_d p_X12_keep 27 rfl) rfl (by decide) ?_
    refine pj_ist1 (q := 51) (pj_d p_X12_keep 28 rfl) rfl (by first | rfl | assumption) ?_
    have loop : ∀ m i f2, (∀ j k, j < a → k < 56 → f2 (56 * j + k) = nI (gd_kA (τ, A, ac) j k)) → (∀ k, k < i → f2 (56 * a + k) = nI (τ k)) → 56 - i < m → i ≤ 56 → pj_V E B l Y_X12_keep 1 0 0 51 [some (.ref g), some (.int (nI i))] [] (pj_up h1 (g + 6) (.inl (0, 1344, .inl f2))) n 0 0 (fun r h' n' => r = none ∧ n' = n ∧ h' g = some (.inr (11, gd_Mo g (upd v 8 (nI (gd_kn ac))))) ∧ gd_AM h' g (gd_kA (τ, A, ac)) (gd_kn ac) ∧ ∀ q, q ≠ g → q ≠ g + 6 → h' q = h q) := by
      intro m
      induction m with
      | zero => intro i f2 _ _ hi; omega
      | succ m ih =>
        intro i f2 ho hn hi hle
        have hM2 : (pj_up h1 (g + 6) (.inl (0, 1344, .inl f2))) g = some (.inr (11, gd_Mo g v1)) := by rw [pj_up_n (by omega)]; exact hM1
        have hT2 : (pj_up h1 (g + 6) (.inl (0, 1344, .inl f2))) (g + 4) = some (.inl (0, 56, .inl (fun j => nI (τ j)))) := by rw [pj_up_n (by omega)]; exact hT1
        have hW2 : (pj_up h1 (g + 6) (.inl (0, 1344, .inl f2))) (g + 6) = some (.inl (0, 1344, .inl f2)) := pj_up_s
        refine pj_ild1 (q := 52) (pj_d p_X12_keep 29 rfl) rfl ?_
        refine pj_bipush (q := 54) (v := nI 56) (pj_d p_X12_keep 30 rfl) rfl (by decide) ?_
        refine pj_icmp_ge (t := 83) (q := 57) (pj_d p_X12_keep 31 rfl) rfl (by decide) (fun c1 => ?_) (fun c1 => ?_)
        · have he : i = 56 := by have := gd_ge c1 (by omega) (by omega); omega
          subst he
          refine pj_ald0 (q := 84) (pj_d p_X12_keep 47 rfl) rfl ?_
          refine pj_dup (q := 85) (pj_d p_X12_keep 48 rfl) rfl rfl ?_
          refine pj_gf (q := 88) (k := 8) (pj_d p_X12_keep 49 rfl) rfl kX12_150 (by assumption) (by rfl) (by rfl) ?_
          rw [hv1]
          refine pj_iconst (q := 89) (v := nI 1) (pj_d p_X12_keep 50 rfl) rfl (by decide) ?_
          refine pj_iadd (q := 90) (pj_d p_X12_keep 51 rfl) rfl ?_
          rw [nI_add]
          refine pj_pf (q := 93) (k := 8) (fs' := gd_Mo g (upd v1 8 (nI (a + 1)))) (pj_d p_X12_keep 52 rfl) rfl kX12_150 hM2 rfl (Or.inl rfl) rfl rfl rfl (by show 8 < 24; decide) rfl ?_
          refine pj_vret rfl (pj_d p_X12_keep 53 rfl) (by decide) (by decide) ?_
          refine ⟨rfl, rfl, by rw [pj_up_s, hvv], ⟨f2, by rw [pj_up_n (by omega)]; exact hW2, fun j k hj hk => ?_⟩, fun q e1 e2 => by rw [pj_up_n e1, pj_up_n e2, hq1 q e1 e2]⟩
          by_cases e : j = a
          · subst e; rw [hn k hk, hnew k hk]
          · exact ho j k (by omega) hk
        have hlt : i < 56 := gd_lt c1 (by omega)
        refine pj_ald0 (q := 58) (pj_d p_X12_keep 32 rfl) rfl ?_
        refine pj_gf (q := 61) (k := 7) (pj_d p_X12_keep 33 rfl) rfl kX12_25 (by assumption) (by rfl) (by rfl) ?_
        refine pj_bipush (q := 63) (v := nI 56) (pj_d p_X12_keep 34 rfl) rfl (by decide) ?_
        refine pj_ald0 (q := 64) (pj_d p_X12_keep 35 rfl) rfl ?_
        refine pj_gf (q := 67) (k := 8) (pj_d p_X12_keep 36 rfl) rfl kX12_150 (by assumption) (by rfl) (by rfl) ?_
        rw [hv1]
        refine pj_imul (q := 68) (pj_d p_X12_keep 37 rfl) rfl ?_
        rw [pk_mul]
        refine pj_ild1 (q := 69) (pj_d p_X12_keep 38 rfl) rfl ?_
        refine pj_iadd (q := 70) (pj_d p_X12_keep 39 rfl) rfl ?_
        rw [nI_add]
        refine pj_ald0 (q := 71) (pj_d p_X12_keep 40 rfl) rfl ?_
        refine pj_gf (q := 74) (k := 5) (pj_d p_X12_keep 41 rfl) rfl kX12_19 (by assumption) (by rfl) (by rfl) ?_
        refine pj_ild1 (q := 75) (pj_d p_X12_keep 42 rfl) rfl ?_
        refine pj_ialdN (q := 76) (pj_d p_X12_keep 43 rfl) rfl (by assumption) (by rfl) (by first | assumption | omega) (Nat.le_of_ble_eq_true rfl) ?_
        refine pj_iast (q := 77) (pj_d p_X12_keep 44 rfl) rfl (by assumption) (by rfl) (by first | assumption | omega) (Nat.le_of_ble_eq_true rfl) ?_
        rw [pj_up_up]
        refine pj_iinc1 (q := 80) (v := 1) (pj_d p_X12_keep 45 rfl) rfl (by first | rfl | assumption) (by decide) ?_
        refine pj_goto (t := 51) (pj_d p_X12_keep 46 rfl) (by decide) ?_
        rw [nI_1]
        refine ih (i + 1) _ (fun j k hj hk => ?_) (fun k hk => ?_) (by omega) (by omega)
        · rw [gd_upd, if_neg (by omega)]; exact ho j k hj hk
        · rw [gd_upd]
          by_cases e : 56 * a + k = 56 * a + i
          · rw [if_pos e, show k = i by omega]
          · rw [if_neg e]; exact hn k (by omega)
    have := loop 57 0 f1 hold (fun k hk => absurd hk (Nat.not_lt_zero k)) (by omega) (by omega)
    rw [pj_up_id hf1] at this
    exact this
  refine pj_ald0 (q := 1) (pj_d p_X12_keep 0 rfl) rfl ?_
  refine pj_gf (q := 4) (k := 8) (pj_d p_X12_keep 1 rfl) rfl kX12_150 (by assumption) (by rfl) (by rfl) ?_
  rw [h8]
  refine pj_bipush (q := 6) (v := nI 24) (pj_d p_X12_keep 2 rfl) rfl (by decide) ?_
  refine pj_icmp_ne (t := 49) (q := 9) (pj_d p_X12_keep 3 rfl) rfl (by decide) (fun c1 => ?_) (fun c1 => ?_)
  · have hne : ¬ ac = 24 := fun q => c1 (by rw [q])
    exact second h v f ac none (by omega) rfl hM h8 (by rw [gd_kn, if_neg hne]) hT hf (fun _ _ _ => rfl) (by rw [gd_kn, if_neg hne]) (fun j k hj hk => by rw [hfA j k hj hk, gd_kA]; simp only [if_neg hne]; rw [if_neg (by omega)]) (fun k _ => by rw [gd_kA]; simp only [if_neg hne, if_true])
  have h24 : ac = 24 := (nI_eq (by omega) (by omega)).mp c1
  subst h24
  refine pj_iconst (q := 10) (v := nI 0) (pj_d p_X12_keep 4 rfl) rfl (by decide) ?_
  refine pj_ist1 (q := 11) (pj_d p_X12_keep 5 rfl) rfl (by first | rfl | assumption) ?_
  have shift : ∀ m i f2, (∀ z, z < i → f2 z = f (z + 56)) → (∀ z, i ≤ z → f2 z = f z) → 1288 - i < m → i ≤ 1288 → pj_V E B l Y_X12_keep 1 0 0 11 [some (.ref g), some (.int (nI i))] [] (pj_up h (g + 6) (.inl (0, 1344, .inl f2))) n 0 0 (fun r h' n' => r = none ∧ n' = n ∧ h' g = some (.inr (11, gd_Mo g (upd v 8 (nI (gd_kn 24))))) ∧ gd_AM h' g (gd_kA (τ, A, 24)) (gd_kn 24) ∧ ∀ q, q ≠ g → q ≠ g + 6 → h' q = h q) := by
    intro m
    induction m with
    | zero => intro i f2 _ _ hi; omega
    | succ m ih =>
      intro i f2 ho hn hi hle
      have hM2 : (pj_up h (g + 6) (.inl (0, 1344, .inl f2))) g = some (.inr (11, gd_Mo g v)) := by rw [pj_up_n (by omega)]; exact hM
      have hT2 : (pj_up h (g + 6) (.inl (0, 1344, .inl f2))) (g + 4) = some (.inl (0, 56, .inl (fun j => nI (τ j)))) := by rw [pj_up_n (by omega)]; exact hT
      have hW2 : (pj_up h (g + 6) (.inl (0, 1344, .inl f2))) (g + 6) = some (.inl (0, 1344, .inl f2)) := pj_up_s
      refine pj_ild1 (q := 12) (pj_d p_X12_keep 6 rfl) rfl ?_
      refine pj_sipush (q := 15) (v := nI 1288) (pj_d p_X12_keep 7 rfl) rfl (by decide) ?_
      refine pj_icmp_ge (t := 39) (q := 18) (pj_d p_X12_keep 8 rfl) rfl (by decide) (fun c2 => ?_) (fun c2 => ?_)
      · have he : i = 1288 := by have := gd_ge c2 (by omega) (by omega); omega
        subst he
        refine pj_ald0 (q := 40) (pj_d p_X12_keep 21 rfl) rfl ?_
        refine pj_dup (q := 41) (pj_d p_X12_keep 22 rfl) rfl rfl ?_
        refine pj_gf (q := 44) (k := 8) (pj_d p_X12_keep 23 rfl) rfl kX12_150 (by assumption) (by rfl) (by rfl) ?_
        rw [h8]
        refine pj_iconst (q := 45) (v := nI 1) (pj_d p_X12_keep 24 rfl) rfl (by decide) ?_
        refine pj_isub (q := 46) (pj_d p_X12_keep 25 rfl) rfl ?_
        rw [gd_sub (by omega)]
        refine pj_pf (q := 49) (k := 8) (fs' := gd_Mo g (upd v 8 (nI 23))) (pj_d p_X12_keep 26 rfl) rfl kX12_150 hM2 rfl (Or.inl rfl) rfl rfl rfl (by show 8 < 24; decide) rfl ?_
        refine second _ (upd v 8 (nI 23)) f2 23 _ (by omega) rfl pj_up_s (by rw [gd_upd, if_pos rfl]) (by rw [gd_upd_upd]; rfl) (by rw [pj_up_n (by omega)]; exact hT2) (by rw [pj_up_n (by omega)]; exact hW2) (fun q e1 e2 => by rw [pj_up_n e1, pj_up_n e2]) rfl (fun j k hj hk => ?_) (fun k _ => by rw [gd_kA]; simp)
        rw [ho (56 * j + k) (by omega), show 56 * j + k + 56 = 56 * (j + 1) + k by omega, hfA (j + 1) k (by omega) hk, gd_kA]
        simp only [if_true]
        rw [if_neg (by omega)]
      have hlt : i < 1288 := gd_lt c2 (by omega)
      refine pj_ald0 (q := 19) (pj_d p_X12_keep 9 rfl) rfl ?_
      refine pj_gf (q := 22) (k := 7) (pj_d p_X12_keep 10 rfl) rfl kX12_25 (by assumption) (by rfl) (by rfl) ?_
      refine pj_ild1 (q := 23) (pj_d p_X12_keep 11 rfl) rfl ?_
      refine pj_ald0 (q := 24) (pj_d p_X12_keep 12 rfl) rfl ?_
      refine pj_gf (q := 27) (k := 7) (pj_d p_X12_keep 13 rfl) rfl kX12_25 (by assumption) (by rfl) (by rfl) ?_
      refine pj_ild1 (q := 28) (pj_d p_X12_keep 14 rfl) rfl ?_
      refine pj_bipush (q := 30) (v := nI 56) (pj_d p_X12_keep 15 rfl) rfl (by decide) ?_
      refine pj_iadd (q := 31) (pj_d p_X12_keep 16 rfl) rfl ?_
      rw [nI_add]
      refine pj_ialdN (q := 32) (pj_d p_X12_keep 17 rfl) rfl (by assumption) (by rfl) (by first | assumption | omega) (Nat.le_of_ble_eq_true rfl) ?_
      refine pj_iast (q := 33) (pj_d p_X12_keep 18 rfl) rfl (by assumption) (by rfl) (by first | assumption | omega) (Nat.le_of_ble_eq_true rfl) ?_
      rw [pj_up_up]
      refine pj_iinc1 (q := 36) (v := 1) (pj_d p_X12_keep 19 rfl) rfl (by first | rfl | assumption) (by decide) ?_
      refine pj_goto (t := 11) (pj_d p_X12_keep 20 rfl) (by decide) ?_
      rw [nI_1]
      refine ih (i + 1) _ (fun z hz => ?_) (fun z hz => ?_) (by omega) (by omega)
      · rw [gd_upd]
        by_cases e : z = i
        · rw [if_pos e, e, hn (i + 56) (by omega)]
        · rw [if_neg e]; exact ho z (by omega)
      · rw [gd_upd, if_neg (by omega)]; exact hn z (by omega)
  have := shift 1289 0 f (fun z hz => absurd hz (Nat.not_lt_zero z)) (fun _ _ => rfl) (by omega) (by omega)
  rw [pj_up_id hf] at this
  exact this
theorem gd_kn_le {ac : Nat} (h : ac ≤ 24) : gd_kn ac ≤ 24 := by unfold gd_kn; split <;> omega
theorem c_X12_paint (hM : h g = some (.inr (11, gd_Mo g v))) (hv : v 0 = nI 0) (hT : h (g + 4) = some (.inl (0, 56, .inl (fun j => nI (t.1 j))))) (hW : gd_W t.1) (hA : gd_AM h g t.2.1 t.2.2) (h8 : v 8 = nI t.2.2) (hac : t.2.2 ≤ 24) (x m : Int32) : pj_Ct E B l Y_X12_paint 3 0 0 [.ref g, .int x, .int m] h n (gd_PT (sp_paint x m t).1 (sp_paint x m t).2 h g v n) := by
  have h7 := hW.1
  refine pj_in rfl (ls := [some (.ref g), some (.int (x)), some (.int (m)), none]) rfl (Nat.le_of_ble_eq_true rfl) ?_
  refine gd_thr (pj_d p_X12_paint 0 rfl) (pj_d p_X12_paint 1 rfl) (pj_d p_X12_paint 2 rfl) rfl hM hv ?_
  have bad : (gd_has t.1 x && gd_rng m 0 31) = false → pj_V E B l Y_X12_paint 3 0 0 25 [some (.ref g), some (.int (x)), some (.int (m)), none] [] h n 0 0 (gd_PT (sp_paint x m t).1 (sp_paint x m t).2 h g v n) := by
    intro hx
    refine pj_ldc (q := 27) (pj_d p_X12_paint 13 rfl) rfl kX12_67 ?_
    refine pj_iret rfl (pj_d p_X12_paint 14 rfl) (by decide) (by decide) ?_
    exact gd_PT_same hM hT hA h8 (by rw [sp_paint, hx]; rfl)
  refine pj_ald0 (q := 6) (pj_d p_X12_paint 3 rfl) rfl ?_
  refine pj_ild1 (q := 7) (pj_d p_X12_paint 4 rfl) rfl ?_
  refine pj_cp (pj_rV (q := 10) (c_X12_isThing hM hT h7 x) (pj_d p_X12_paint 5 rfl) rfl kX12_153 o_X12_isThing (by assumption) (by rfl) (by rfl) (by rfl) (by rfl) (Nat.le_of_ble_eq_true rfl) (by decide)) (by decide) (by decide) ?_
  refine pj_if_eq (t := 25) (q := 13) (pj_d p_X12_paint 6 rfl) rfl (by decide) (fun c1 => ?_) (fun c1 => ?_)
  · exact bad (by rw [(gd_b_z _).mp c1]; rfl)
  refine pj_ild2 (q := 14) (pj_d p_X12_paint 7 rfl) rfl ?_
  refine pj_i2l (q := 15) (pj_d p_X12_paint 8 rfl) rfl ?_
  refine pj_lconst (q := 16) (v := lN 0) (pj_d p_X12_paint 9 rfl) rfl (by decide) ?_
  refine pj_ldc2 (q := 19) (pj_d p_X12_paint 10 rfl) rfl kX12_185 ?_
  refine pj_cp (pj_rS (q := 22) (c_X12_in m (lN 0) 31 0 31 (by decide) (by decide)) (pj_d p_X12_paint 11 rfl) rfl kX12_57 o_X12_in (by rfl) (by rfl) (Nat.le_of_ble_eq_true rfl) (by decide)) (by decide) (by decide) ?_
  refine pj_if_ne (t := 28) (q := 25) (pj_d p_X12_paint 12 rfl) rfl (by decide) (fun c2 => ?_) (fun c2 => ?_)
  rotate_left
  · exact bad (by rw [(gd_b_z _).mp c2]; simp)
  have e1 := (gd_b_n _).mp c1
  have e2 := (gd_b_n _).mp c2
  obtain ⟨i, hi, rfl, hc⟩ := gd_has_of h7 e1
  obtain ⟨j, hj, rfl, hd⟩ := gd_rng_of (hi := 31) e2
  obtain ⟨ki, mi, -⟩ := hW.2.2.2.2.1 i hi
  refine pj_ald0 (q := 29) (pj_d p_X12_paint 15 rfl) rfl ?_
  refine pj_ild1 (q := 30) (pj_d p_X12_paint 16 rfl) rfl ?_
  refine pj_iconst (q := 31) (v := nI 0) (pj_d p_X12_paint 17 rfl) rfl (by decide) ?_
  refine pj_cp (pj_rV (q := 34) (c_X12_of hM hT (t := i) (w := 0) (by omega) (by omega)) (pj_d p_X12_paint 18 rfl) rfl kX12_158 o_X12_of (by assumption) (by rfl) (by rfl) (by rfl) (by rfl) (Nat.le_of_ble_eq_true rfl) (by decide)) (by decide) (by decide) ?_
  rw [show 11 + 3 * i + 0 = 11 + 3 * i by omega]
  refine pj_iconst (q := 35) (v := nI 4) (pj_d p_X12_paint 19 rfl) rfl (by decide) ?_
  refine pj_icmp_lt (t := 41) (q := 38) (pj_d p_X12_paint 20 rfl) rfl (by decide) (fun c3 => ?_) (fun c3 => ?_)
  · have h4 : t.1 (11 + 3 * i) < 4 := (nI_ltI (by omega) (by omega)).mp c3
    refine pj_ald0 (q := 42) (pj_d p_X12_paint 23 rfl) rfl ?_
    refine pj_cv (pj_rV (q := 45) (c_X12_keep hM hT hA h8 hac) (pj_d p_X12_paint 24 rfl) rfl kX12_182 o_X12_keep (by assumption) (by rfl) (by rfl) (by rfl) (by rfl) (Nat.le_of_ble_eq_true rfl) (by decide)) (by decide) (by decide) ?_
    rintro r1 h1 n1 ⟨rfl, rfl, hM1, hA1, hq1⟩
    have hT1 : h1 (g + 4) = some (.inl (0, 56, .inl (fun j => nI (t.1 j)))) := by rw [hq1 _ (by omega) (by omega)]; exact hT
    refine pj_ald0 (q := 46) (pj_d p_X12_paint 25 rfl) rfl ?_
    refine pj_ild1 (q := 47) (pj_d p_X12_paint 26 rfl) rfl ?_
    refine pj_iconst (q := 48) (v := nI 1) (pj_d p_X12_paint 27 rfl) rfl (by decide) ?_
    refine pj_cp (pj_rV (q := 51) (c_X12_of hM1 hT1 (t := i) (w := 1) (by omega) (by omega)) (pj_d p_X12_paint 28 rfl) rfl kX12_158 o_X12_of (by assumption) (by rfl) (by rfl) (by rfl) (by rfl) (Nat.le_of_ble_eq_true rfl) (by decide)) (by decide) (by decide) ?_
    rw [show 11 + 3 * i + 1 = 12 + 3 * i by omega]
    refine pj_ist3 (q := 52) (pj_d p_X12_paint 29 rfl) rfl (by first | rfl | assumption) ?_
    refine pj_ald0 (q := 53) (pj_d p_X12_paint 30 rfl) rfl ?_
    refine pj_gf (q := 56) (k := 5) (pj_d p_X12_paint 31 rfl) rfl kX12_19 (by assumption) (by rfl) (by rfl) ?_
    refine pj_bipush (q := 58) (v := nI 11) (pj_d p_X12_paint 32 rfl) rfl (by decide) ?_
    refine pj_iconst (q := 59) (v := nI 3) (pj_d p_X12_paint 33 rfl) rfl (by decide) ?_
    refine pj_ild1 (q := 60) (pj_d p_X12_paint 34 rfl) rfl ?_
    refine pj_imul (q := 61) (pj_d p_X12_paint 35 rfl) rfl ?_
    rw [pk_mul]
    refine pj_iadd (q := 62) (pj_d p_X12_paint 36 rfl) rfl ?_
    rw [nI_add]
    refine pj_iconst (q := 63) (v := nI 1) (pj_d p_X12_paint 37 rfl) rfl (by decide) ?_
    refine pj_iadd (q := 64) (pj_d p_X12_paint 38 rfl) rfl ?_
    rw [nI_add, show 11 + 3 * i + 1 = 12 + 3 * i by omega]
    refine pj_ild2 (q := 65) (pj_d p_X12_paint 39 rfl) rfl ?_
    refine pj_iast (q := 66) (pj_d p_X12_paint 40 rfl) rfl (by assumption) (by rfl) (by first | assumption | omega) (Nat.le_of_ble_eq_true rfl) ?_
    rw [gd_setI']
    refine pj_ild3 (q := 67) (pj_d p_X12_paint 41 rfl) rfl ?_
    refine pj_iret rfl (pj_d p_X12_paint 42 rfl) (by decide) (by decide) ?_
    have hsp : sp_paint (nI i) (nI j) t = (nI (t.1 (12 + 3 * i)), gd_act t (gd_set t.1 (12 + 3 * i) j)) := by rw [sp_paint, e1, e2, hc, hd]; simp [h4]
    rw [hsp]
    obtain ⟨f, hf, hfA⟩ := hA1
    exact ⟨rfl, rfl, by rw [pj_up_n (by omega)]; exact hM1, pj_up_s, ⟨f, by rw [pj_up_n (by omega)]; exact hf, hfA⟩, fun q a1 a2 a3 => by rw [pj_up_n a2, hq1 q a1 a3]⟩
  · have h4 : ¬ t.1 (11 + 3 * i) < 4 := fun q => c3 (nI_lt q (by omega))
    refine pj_ldc (q := 40) (pj_d p_X12_paint 21 rfl) rfl kX12_179 ?_
    refine pj_iret rfl (pj_d p_X12_paint 22 rfl) (by decide) (by decide) ?_
    exact gd_PT_same hM hT hA h8 (by rw [sp_paint, e1, e2, hc]; simp [h4])
theorem c_X12_miss (hM : h g = some (.inr (11, gd_Mo g v))) (hv : v 0 = nI 0) (hT : h (g + 4) = some (.inl (0, 56, .inl (fun j => nI (t.1 j))))) (hW : gd_W t.1) (h1 : t.1 0 ≤ 1) (hA : gd_AM h g t.2.1 t.2.2) (h8 : v 8 = nI t.2.2) (hac : t.2.2 ≤ 24) (w c : Int32) : pj_Ct E B l Y_X12_miss 2 0 0 [.ref g, .int w, .int c] h n (gd_PT (sp_miss w c t).1 (sp_miss w c t).2 h g v n) := by
  refine pj_in rfl (ls := [some (.ref g), some (.int (w)), some (.int (c)), none]) rfl (Nat.le_of_ble_eq_true rfl) ?_
  refine gd_thr (pj_d p_X12_miss 0 rfl) (pj_d p_X12_miss 1 rfl) (pj_d p_X12_miss 2 rfl) rfl hM hv ?_
  refine pj_ald0 (q := 6) (pj_d p_X12_miss 3 rfl) rfl ?_
  refine pj_cp (pj_rV (q := 9) (c_X12_isThere hM hT h1) (pj_d p_X12_miss 4 rfl) rfl kX12_176 o_X12_isThere (by assumption) (by rfl) (by rfl) (by rfl) (by rfl) (Nat.le_of_ble_eq_true rfl) (by decide)) (by decide) (by decide) ?_
  refine pj_if_ne (t := 15) (q := 12) (pj_d p_X12_miss 5 rfl) rfl (by decide) (fun c1 => ?_) (fun c1 => ?_)
  rotate_left
  · have ht := gd_dec_f c1
    refine pj_ldc (q := 14) (pj_d p_X12_miss 6 rfl) rfl kX12_179 ?_
    refine pj_iret rfl (pj_d p_X12_miss 7 rfl) (by decide) (by decide) ?_
    exact gd_PT_same hM hT hA h8 (by rw [sp_miss, if_neg ht])
  have ht := gd_dec_t c1
  have bad : (gd_rng w 0 6 && gd_rng c 0 5) = false → pj_V E B l Y_X12_miss 2 0 0 39 [some (.ref g), some (.int (w)), some (.int (c)), none] [] h n 0 0 (gd_PT (sp_miss w c t).1 (sp_miss w c t).2 h g v n) := by
    intro hx
    refine pj_ldc (q := 41) (pj_d p_X12_miss 20 rfl) rfl kX12_67 ?_
    refine pj_iret rfl (pj_d p_X12_miss 21 rfl) (by decide) (by decide) ?_
    exact gd_PT_same hM hT hA h8 (by rw [sp_miss, if_pos ht, hx]; rfl)
  refine pj_ild1 (q := 16) (pj_d p_X12_miss 8 rfl) rfl ?_
  refine pj_i2l (q := 17) (pj_d p_X12_miss 9 rfl) rfl ?_
  refine pj_lconst (q := 18) (v := lN 0) (pj_d p_X12_miss 10 rfl) rfl (by decide) ?_
  refine pj_ldc2 (q := 21) (pj_d p_X12_miss 11 rfl) rfl kX12_187 ?_
  refine pj_cp (pj_rS (q := 24) (c_X12_in w (lN 0) 6 0 6 (by decide) (by decide)) (pj_d p_X12_miss 12 rfl) rfl kX12_57 o_X12_in (by rfl) (by rfl) (Nat.le_of_ble_eq_true rfl) (by decide)) (by decide) (by decide) ?_
  refine pj_if_eq (t := 39) (q := 27) (pj_d p_X12_miss 13 rfl) rfl (by decide) (fun c2 => ?_) (fun c2 => ?_)
  · exact bad (by rw [(gd_b_z _).mp c2]; rfl)
  refine pj_ild2 (q := 28) (pj_d p_X12_miss 14 rfl) rfl ?_
  refine pj_i2l (q := 29) (pj_d p_X12_miss 15 rfl) rfl ?_
  refine pj_lconst (q := 30) (v := lN 0) (pj_d p_X12_miss 16 rfl) rfl (by decide) ?_
  refine pj_ldc2 (q := 33) (pj_d p_X12_miss 17 rfl) rfl kX12_189 ?_
  refine pj_cp (pj_rS (q := 36) (c_X12_in c (lN 0) 5 0 5 (by decide) (by decide)) (pj_d p_X12_miss 18 rfl) rfl kX12_57 o_X12_in (by rfl) (by rfl) (Nat.le_of_ble_eq_true rfl) (by decide)) (by decide) (by decide) ?_
  refine pj_if_ne (t := 42) (q := 39) (pj_d p_X12_miss 19 rfl) rfl (by decide) (fun c3 => ?_) (fun c3 => ?_)
  rotate_left
  · exact bad (by rw [(gd_b_z _).mp c3]; simp)
  have e1 := (gd_b_n _).mp c2
  have e2 := (gd_b_n _).mp c3
  obtain ⟨i, hi, rfl, hc⟩ := gd_rng_of (hi := 6) e1
  obtain ⟨j, hj, rfl, hd⟩ := gd_rng_of (hi := 5) e2
  refine pj_ald0 (q := 43) (pj_d p_X12_miss 22 rfl) rfl ?_
  refine pj_cv (pj_rV (q := 46) (c_X12_keep hM hT hA h8 hac) (pj_d p_X12_miss 23 rfl) rfl kX12_182 o_X12_keep (by assumption) (by rfl) (by rfl) (by rfl) (by rfl) (Nat.le_of_ble_eq_true rfl) (by decide)) (by decide) (by decide) ?_
  rintro r1 h1' n1 ⟨rfl, rfl, hM1, hA1, hq1⟩
  have hT1 : h1' (g + 4) = some (.inl (0, 56, .inl (fun j => nI (t.1 j)))) := by rw [hq1 _ (by omega) (by omega)]; exact hT
  refine pj_ald0 (q := 47) (pj_d p_X12_miss 24 rfl) rfl ?_
  refine pj_gf (q := 50) (k := 5) (pj_d p_X12_miss 25 rfl) rfl kX12_19 (by assumption) (by rfl) (by rfl) ?_
  refine pj_iconst (q := 51) (v := nI 4) (pj_d p_X12_miss 26 rfl) rfl (by decide) ?_
  refine pj_ild1 (q := 52) (pj_d p_X12_miss 27 rfl) rfl ?_
  refine pj_iadd (q := 53) (pj_d p_X12_miss 28 rfl) rfl ?_
  rw [nI_add]
  refine pj_ialdN (q := 54) (pj_d p_X12_miss 29 rfl) rfl (by assumption) (by rfl) (by first | assumption | omega) (Nat.le_of_ble_eq_true rfl) ?_
  refine pj_ist3 (q := 55) (pj_d p_X12_miss 30 rfl) rfl (by first | rfl | assumption) ?_
  refine pj_ald0 (q := 56) (pj_d p_X12_miss 31 rfl) rfl ?_
  refine pj_gf (q := 59) (k := 5) (pj_d p_X12_miss 32 rfl) rfl kX12_19 (by assumption) (by rfl) (by rfl) ?_
  refine pj_iconst (q := 60) (v := nI 4) (pj_d p_X12_miss 33 rfl) rfl (by decide) ?_
  refine pj_ild1 (q := 61) (pj_d p_X12_miss 34 rfl) rfl ?_
  refine pj_iadd (q := 62) (pj_d p_X12_miss 35 rfl) rfl ?_
  rw [nI_add]
  refine pj_ild2 (q := 63) (pj_d p_X12_miss 36 rfl) rfl ?_
  refine pj_iast (q := 64) (pj_d p_X12_miss 37 rfl) rfl (by assumption) (by rfl) (by first | assumption | omega) (Nat.le_of_ble_eq_true rfl) ?_
  rw [gd_setI']
  refine pj_ild3 (q := 65) (pj_d p_X12_miss 38 rfl) rfl ?_
  refine pj_iret rfl (pj_d p_X12_miss 39 rfl) (by decide) (by decide) ?_
  have hsp : sp_miss (nI i) (nI j) t = (nI (t.1 (4 + i)), gd_act t (gd_set t.1 (4 + i) j)) := by rw [sp_miss, if_pos ht, e1, e2, hc, hd]; rfl
  rw [hsp]
  obtain ⟨f, hf, hfA⟩ := hA1
  exact ⟨rfl, rfl, by rw [pj_up_n (by omega)]; exact hM1, pj_up_s, ⟨f, by rw [pj_up_n (by omega)]; exact hf, hfA⟩, fun q a1 a2 a3 => by rw [pj_up_n a2, hq1 q a1 a3]⟩
theorem gd_dn_3 (t : gd_TT) : ∀ i, (gd_dn i t).1 3 = t.1 3 + i
  | 0 => rfl
  | i + 1 => by
    rw [gd_dn, gd_day1, gd_act]
    show gd_set (gd_dn i t).1 3 ((gd_dn i t).1 3 + 1) 3 = _
    rw [gd_set_s, gd_dn_3 t i]
    omega
theorem gd_dn_ac (t : gd_TT) (h : t.2.2 ≤ 24) : ∀ i, (gd_dn i t).2.2 ≤ 24
  | 0 => h
  | i + 1 => by
    rw [gd_dn, gd_day1, gd_act]
    exact gd_kn_le (gd_dn_ac t h i)
theorem c_X12_days (hM : h g = some (.inr (11, gd_Mo g v))) (hv : v 0 = nI 0) (hT : h (g + 4) = some (.inl (0, 56, .inl (fun j => nI (t.1 j))))) (hW : gd_W t.1) (h1 : t.1 0 ≤ 1) (hA : gd_AM h g t.2.1 t.2.2) (h8 : v 8 = nI t.2.2) (hac : t.2.2 ≤ 24) (d : Int32) : pj_Ct E B l Y_X12_days 2 0 0 [.ref g, .int d] h n (gd_PT (sp_days d t).1 (sp_days d t).2 h g v n) := by
  have h3 := hW.2.2.1
  refine pj_in rfl (ls := [some (.ref g), some (.int (d)), none]) rfl (Nat.le_of_ble_eq_true rfl) ?_
  refine gd_thr (pj_d p_X12_days 0 rfl) (pj_d p_X12_days 1 rfl) (pj_d p_X12_days 2 rfl) rfl hM hv ?_
  refine pj_ald0 (q := 6) (pj_d p_X12_days 3 rfl) rfl ?_
  refine pj_cp (pj_rV (q := 9) (c_X12_isThere hM hT h1) (pj_d p_X12_days 4 rfl) rfl kX12_176 o_X12_isThere (by assumption) (by rfl) (by rfl) (by rfl) (by rfl) (Nat.le_of_ble_eq_true rfl) (by decide)) (by decide) (by decide) ?_
  refine pj_if_ne (t := 15) (q := 12) (pj_d p_X12_days 5 rfl) rfl (by decide) (fun c1 => ?_) (fun c1 => ?_)
  rotate_left
  · have ht := gd_dec_f c1
    refine pj_ldc (q := 14) (pj_d p_X12_days 6 rfl) rfl kX12_179 ?_
    refine pj_iret rfl (pj_d p_X12_days 7 rfl) (by decide) (by decide) ?_
    exact gd_PT_same hM hT hA h8 (by rw [sp_days, if_neg ht])
  have ht := gd_dec_t c1
  refine pj_ild1 (q := 16) (pj_d p_X12_days 8 rfl) rfl ?_
  refine pj_i2l (q := 17) (pj_d p_X12_days 9 rfl) rfl ?_
  refine pj_lconst (q := 18) (v := lN 1) (pj_d p_X12_days 10 rfl) rfl (by decide) ?_
  refine pj_ldc2 (q := 21) (pj_d p_X12_days 11 rfl) rfl kX12_180 ?_
  refine pj_cp (pj_rS (q := 24) (c_X12_in d (lN 1) 24 1 24 (by decide) (by decide)) (pj_d p_X12_days 12 rfl) rfl kX12_57 o_X12_in (by rfl) (by rfl) (Nat.le_of_ble_eq_true rfl) (by decide)) (by decide) (by decide) ?_
  refine pj_if_ne (t := 30) (q := 27) (pj_d p_X12_days 13 rfl) rfl (by decide) (fun c2 => ?_) (fun c2 => ?_)
  rotate_left
  · refine pj_ldc (q := 29) (pj_d p_X12_days 14 rfl) rfl kX12_67 ?_
    refine pj_iret rfl (pj_d p_X12_days 15 rfl) (by decide) (by decide) ?_
    exact gd_PT_same hM hT hA h8 (by rw [sp_days, if_pos ht, (gd_b_z _).mp c2]; rfl)
  have e1 := (gd_b_n _).mp c2
  obtain ⟨c, hc1, hc, rfl, hcc⟩ := gd_rng_of1 (hi := 24) e1
  refine pj_ald0 (q := 31) (pj_d p_X12_days 16 rfl) rfl ?_
  refine pj_gf (q := 34) (k := 5) (pj_d p_X12_days 17 rfl) rfl kX12_19 (by assumption) (by rfl) (by rfl) ?_
  refine pj_iconst (q := 35) (v := nI 3) (pj_d p_X12_days 18 rfl) rfl (by decide) ?_
  refine pj_ialdN (q := 36) (pj_d p_X12_days 19 rfl) rfl (by assumption) (by rfl) (by first | assumption | omega) (Nat.le_of_ble_eq_true rfl) ?_
  refine pj_ild1 (q := 37) (pj_d p_X12_days 20 rfl) rfl ?_
  refine pj_iadd (q := 38) (pj_d p_X12_days 21 rfl) rfl ?_
  rw [nI_add]
  refine pj_sipush (q := 41) (v := nI 999) (pj_d p_X12_days 22 rfl) rfl (by decide) ?_
  refine pj_icmp_le (t := 47) (q := 44) (pj_d p_X12_days 23 rfl) rfl (by decide) (fun c3 => ?_) (fun c3 => ?_)
  rotate_left
  · have h9 : ¬ t.1 3 + c ≤ 999 := fun q => c3 (nI_le q (by omega))
    refine pj_ldc (q := 46) (pj_d p_X12_days 24 rfl) rfl kX12_77 ?_
    refine pj_iret rfl (pj_d p_X12_days 25 rfl) (by decide) (by decide) ?_
    exact gd_PT_same hM hT hA h8 (by rw [sp_days, if_pos ht, e1, hcc]; simp [h9])
  have h9 := (nI_leI (by omega) (by omega)).mp c3
  have hsp : sp_days (nI c) t = (nI (t.1 3 + c), gd_dn c t) := by rw [sp_days, if_pos ht, e1, hcc]; simp [h9]
  rw [hsp]
  refine pj_iconst (q := 48) (v := nI 0) (pj_d p_X12_days 26 rfl) rfl (by decide) ?_
  refine pj_ist2 (q := 49) (pj_d p_X12_days 27 rfl) rfl (by first | rfl | assumption) ?_
  have loop : ∀ m i h', h' g = some (.inr (11, gd_Mo g (upd v 8 (nI (gd_dn i t).2.2)))) → h' (g + 4) = some (.inl (0, 56, .inl (fun j => nI ((gd_dn i t).1 j)))) → gd_AM h' g (gd_dn i t).2.1 (gd_dn i t).2.2 → (∀ q, q ≠ g → q ≠ g + 4 → q ≠ g + 6 → h' q = h q) → c - i < m → i ≤ c → pj_V E B l Y_X12_days 2 0 0 49 [some (.ref g), some (.int (nI c)), some (.int (nI i))] [] h' n 0 0 (gd_PT (nI (t.1 3 + c), gd_dn c t).1 (nI (t.1 3 + c), gd_dn c t).2 h g v n) := by
    intro m
    induction m with
    | zero => intro i h' _ _ _ _ hi; omega
    | succ m ih =>
      intro i h' hM' hT' hA' hq' hi hle
      refine pj_ild2 (q := 50) (pj_d p_X12_days 28 rfl) rfl ?_
      refine pj_ild1 (q := 51) (pj_d p_X12_days 29 rfl) rfl ?_
      refine pj_icmp_ge (t := 74) (q := 54) (pj_d p_X12_days 30 rfl) rfl (by decide) (fun c4 => ?_) (fun c4 => ?_)
      · have he : i = c := by have := gd_ge c4 (by omega) (by omega); omega
        subst he
        refine pj_ald0 (q := 75) (pj_d p_X12_days 43 rfl) rfl ?_
        refine pj_gf (q := 78) (k := 5) (pj_d p_X12_days 44 rfl) rfl kX12_19 (by assumption) (by rfl) (by rfl) ?_
        refine pj_iconst (q := 79) (v := nI 3) (pj_d p_X12_days 45 rfl) rfl (by decide) ?_
        refine pj_ialdN (q := 80) (pj_d p_X12_days 46 rfl) rfl (by assumption) (by rfl) (by first | assumption | omega) (Nat.le_of_ble_eq_true rfl) ?_
        refine pj_iret rfl (pj_d p_X12_days 47 rfl) (by decide) (by decide) ?_
        rw [gd_dn_3]
        exact ⟨rfl, rfl, hM', hT', hA', hq'⟩
      have hlt : i < c := gd_lt c4 (by omega)
      refine pj_ald0 (q := 55) (pj_d p_X12_days 31 rfl) rfl ?_
      refine pj_cv (pj_rV (q := 58) (c_X12_keep (t := gd_dn i t) hM' hT' hA' (by rw [gd_upd, if_pos rfl]) (gd_dn_ac t hac i)) (pj_d p_X12_days 32 rfl) rfl kX12_182 o_X12_keep (by assumption) (by rfl) (by rfl) (by rfl) (by rfl) (Nat.le_of_ble_eq_true rfl) (by decide)) (by decide) (by decide) ?_
      rintro r1 h2 n1 ⟨rfl, rfl, hM2, hA2, hq2⟩
      rw [gd_upd_upd] at hM2
      have hT2 : h2 (g + 4) = some (.inl (0, 56, .inl (fun j => nI ((gd_dn i t).1 j)))) := by rw [hq2 _ (by omega) (by omega)]; exact hT'
      refine pj_ald0 (q := 59) (pj_d p_X12_days 33 rfl) rfl ?_
      refine pj_gf (q := 62) (k := 5) (pj_d p_X12_days 34 rfl) rfl kX12_19 (by assumption) (by rfl) (by rfl) ?_
      refine pj_iconst (q := 63) (v := nI 3) (pj_d p_X12_days 35 rfl) rfl (by decide) ?_
      refine pj_dup2 (q := 64) (pj_d p_X12_days 36 rfl) rfl rfl rfl ?_
      refine pj_ialdN (q := 65) (pj_d p_X12_days 37 rfl) rfl (by assumption) (by rfl) (by first | assumption | omega) (Nat.le_of_ble_eq_true rfl) ?_
      refine pj_iconst (q := 66) (v := nI 1) (pj_d p_X12_days 38 rfl) rfl (by decide) ?_
      refine pj_iadd (q := 67) (pj_d p_X12_days 39 rfl) rfl ?_
      rw [nI_add]
      refine pj_iast (q := 68) (pj_d p_X12_days 40 rfl) rfl (by assumption) (by rfl) (by first | assumption | omega) (Nat.le_of_ble_eq_true rfl) ?_
      rw [gd_setI']
      refine pj_iinc2 (q := 71) (v := 1) (pj_d p_X12_days 41 rfl) rfl (by first | rfl | assumption) (by decide) ?_
      refine pj_goto (t := 49) (pj_d p_X12_days 42 rfl) (by decide) ?_
      rw [nI_1]
      obtain ⟨f, hf, hfA⟩ := hA2
      exact ih (i + 1) _ (by rw [pj_up_n (by omega)]; exact hM2) pj_up_s ⟨f, by rw [pj_up_n (by omega)]; exact hf, hfA⟩ (fun q a1 a2 a3 => by rw [pj_up_n a2, hq2 q a1 a3, hq' q a1 a2 a3]) (by omega) (by omega)
  exact loop (c + 1) 0 h (by show h g = some (.inr (11, gd_Mo g (upd v 8 (nI t.2.2)))); rw [gd_upd_id h8]; exact hM) hT hA (fun _ _ _ _ => rfl) (by omega) (by omega)
theorem c_X12_undo (hM : h g = some (.inr (11, gd_Mo g v))) (hv : v 0 = nI 0) (hT : h (g + 4) = some (.inl (0, 56, .inl (fun j => nI (t.1 j))))) (hA : gd_AM h g t.2.1 t.2.2) (h8 : v 8 = nI t.2.2) (hac : t.2.2 ≤ 24) : pj_Ct E B l Y_X12_undo 1 0 0 [.ref g] h n (gd_PT (sp_undo t).1 (sp_undo t).2 h g v n) := by
  refine pj_in rfl (ls := [some (.ref g), none]) rfl (Nat.le_of_ble_eq_true rfl) ?_
  refine gd_thr (pj_d p_X12_undo 0 rfl) (pj_d p_X12_undo 1 rfl) (pj_d p_X12_undo 2 rfl) rfl hM hv ?_
  refine pj_ald0 (q := 6) (pj_d p_X12_undo 3 rfl) rfl ?_
  refine pj_gf (q := 9) (k := 8) (pj_d p_X12_undo 4 rfl) rfl kX12_150 (by assumption) (by rfl) (by rfl) ?_
  rw [h8]
  refine pj_if_ne (t := 15) (q := 12) (pj_d p_X12_undo 5 rfl) rfl (by decide) (fun c1 => ?_) (fun c1 => ?_)
  rotate_left
  · have h0 : t.2.2 = 0 := (nI_eq (by omega) (by omega)).mp (c1.trans nI_0.symm)
    refine pj_ldc (q := 14) (pj_d p_X12_undo 6 rfl) rfl kX12_179 ?_
    refine pj_iret rfl (pj_d p_X12_undo 7 rfl) (by decide) (by decide) ?_
    exact gd_PT_same hM hT hA h8 (by rw [sp_undo, if_pos h0])
  have h0 : ¬ t.2.2 = 0 := fun q => c1 (by rw [q]; rfl)
  rw [show sp_undo t = (nI (t.2.2 - 1), gd_back t) by rw [sp_undo, if_neg h0]]
  obtain ⟨f, hf, hfA⟩ := hA
  refine pj_ald0 (q := 16) (pj_d p_X12_undo 8 rfl) rfl ?_
  refine pj_dup (q := 17) (pj_d p_X12_undo 9 rfl) rfl rfl ?_
  refine pj_gf (q := 20) (k := 8) (pj_d p_X12_undo 10 rfl) rfl kX12_150 (by assumption) (by rfl) (by rfl) ?_
  rw [h8]
  refine pj_iconst (q := 21) (v := nI 1) (pj_d p_X12_undo 11 rfl) rfl (by decide) ?_
  refine pj_isub (q := 22) (pj_d p_X12_undo 12 rfl) rfl ?_
  rw [gd_sub (by omega)]
  refine pj_pf (q := 25) (k := 8) (fs' := gd_Mo g (upd v 8 (nI (t.2.2 - 1)))) (pj_d p_X12_undo 13 rfl) rfl kX12_150 hM rfl (Or.inl rfl) rfl rfl rfl (by show 8 < 24; decide) rfl ?_
  generalize hh1 : pj_up h g (.inr (11, gd_Mo g (upd v 8 (nI (t.2.2 - 1))))) = h1
  have q1 : ∀ q, q ≠ g → h1 q = h q := fun q e => by rw [← hh1, pj_up_n e]
  have hM1 : h1 g = some (.inr (11, gd_Mo g (upd v 8 (nI (t.2.2 - 1))))) := by rw [← hh1, pj_up_s]
  have hT1 : h1 (g + 4) = some (.inl (0, 56, .inl (fun j => nI (t.1 j)))) := by rw [q1 _ (by omega)]; exact hT
  have hf1 : h1 (g + 6) = some (.inl (0, 1344, .inl f)) := by rw [q1 _ (by omega)]; exact hf
  have v8 : upd v 8 (nI (t.2.2 - 1)) 8 = nI (t.2.2 - 1) := by rw [gd_upd, if_pos rfl]
  refine pj_iconst (q := 26) (v := nI 0) (pj_d p_X12_undo 14 rfl) rfl (by decide) ?_
  refine pj_ist1 (q := 27) (pj_d p_X12_undo 15 rfl) rfl (by first | rfl | assumption) ?_
  have loop : ∀ m i, 56 - i < m → i ≤ 56 → pj_V E B l Y_X12_undo 1 0 0 27 [some (.ref g), some (.int (nI i))] [] (pj_up h1 (g + 4) (.inl (0, 56, .inl (fun j => nI (if j < i then t.2.1 (t.2.2 - 1) j else t.1 j))))) n 0 0 (gd_PT (nI (t.2.2 - 1), gd_back t).1 (nI (t.2.2 - 1), gd_back t).2 h g v n) := by
    intro m
    induction m with
    | zero => intro i hi; omega
    | succ m ih =>
      intro i hi hle
      have hM2 : (pj_up h1 (g + 4) (.inl (0, 56, .inl (fun j => nI (if j < i then t.2.1 (t.2.2 - 1) j else t.1 j))))) g = some (.inr (11, gd_Mo g (upd v 8 (nI (t.2.2 - 1))))) := by rw [pj_up_n (by omega)]; exact hM1
      have hf2 : (pj_up h1 (g + 4) (.inl (0, 56, .inl (fun j => nI (if j < i then t.2.1 (t.2.2 - 1) j else t.1 j))))) (g + 6) = some (.inl (0, 1344, .inl f)) := by rw [pj_up_n (by omega)]; exact hf1
      have hT2 : (pj_up h1 (g + 4) (.inl (0, 56, .inl (fun j => nI (if j < i then t.2.1 (t.2.2 - 1) j else t.1 j))))) (g + 4) = some (.inl (0, 56, .inl (fun j => nI (if j < i then t.2.1 (t.2.2 - 1) j else t.1 j)))) := pj_up_s
      refine pj_ild1 (q := 28) (pj_d p_X12_undo 16 rfl) rfl ?_
      refine pj_bipush (q := 30) (v := nI 56) (pj_d p_X12_undo 17 rfl) rfl (by decide) ?_
      refine pj_icmp_ge (t := 59) (q := 33) (pj_d p_X12_undo 18 rfl) rfl (by decide) (fun c2 => ?_) (fun c2 => ?_)
      · have he : i = 56 := by have := gd_ge c2 (by omega) (by omega); omega
        subst he
        refine pj_ald0 (q := 60) (pj_d p_X12_undo 34 rfl) rfl ?_
        refine pj_gf (q := 63) (k := 8) (pj_d p_X12_undo 35 rfl) rfl kX12_150 (by assumption) (by rfl) (by rfl) ?_
        rw [v8]
        refine pj_iret rfl (pj_d p_X12_undo 36 rfl) (by decide) (by decide) ?_
        exact ⟨rfl, rfl, hM2, hT2, ⟨f, hf2, fun j k hj hk => hfA j k (by have : j < t.2.2 - 1 := hj; omega) hk⟩, fun q a1 a2 a3 => by rw [pj_up_n a2, q1 q a1]⟩
      have hlt : i < 56 := gd_lt c2 (by omega)
      refine pj_ald0 (q := 34) (pj_d p_X12_undo 19 rfl) rfl ?_
      refine pj_gf (q := 37) (k := 5) (pj_d p_X12_undo 20 rfl) rfl kX12_19 (by assumption) (by rfl) (by rfl) ?_
      refine pj_ild1 (q := 38) (pj_d p_X12_undo 21 rfl) rfl ?_
      refine pj_ald0 (q := 39) (pj_d p_X12_undo 22 rfl) rfl ?_
      refine pj_gf (q := 42) (k := 7) (pj_d p_X12_undo 23 rfl) rfl kX12_25 (by assumption) (by rfl) (by rfl) ?_
      refine pj_bipush (q := 44) (v := nI 56) (pj_d p_X12_undo 24 rfl) rfl (by decide) ?_
      refine pj_ald0 (q := 45) (pj_d p_X12_undo 25 rfl) rfl ?_
      refine pj_gf (q := 48) (k := 8) (pj_d p_X12_undo 26 rfl) rfl kX12_150 (by assumption) (by rfl) (by rfl) ?_
      rw [v8]
      refine pj_imul (q := 49) (pj_d p_X12_undo 27 rfl) rfl ?_
      rw [pk_mul]
      refine pj_ild1 (q := 50) (pj_d p_X12_undo 28 rfl) rfl ?_
      refine pj_iadd (q := 51) (pj_d p_X12_undo 29 rfl) rfl ?_
      rw [nI_add]
      refine pj_ialdN (q := 52) (pj_d p_X12_undo 30 rfl) rfl (by assumption) (by rfl) (by first | assumption | omega) (Nat.le_of_ble_eq_true rfl) ?_
      rw [hfA (t.2.2 - 1) i (by omega) hlt]
      refine pj_iast (q := 53) (pj_d p_X12_undo 31 rfl) rfl (by assumption) (by rfl) (by first | assumption | omega) (Nat.le_of_ble_eq_true rfl) ?_
      rw [pj_up_up, gd_setI']
      refine pj_iinc1 (q := 56) (v := 1) (pj_d p_X12_undo 32 rfl) rfl (by first | rfl | assumption) (by decide) ?_
      refine pj_goto (t := 27) (pj_d p_X12_undo 33 rfl) (by decide) ?_
      rw [nI_1]
      have e : (fun j => nI (gd_set (fun j => if j < i then t.2.1 (t.2.2 - 1) j else t.1 j) i (t.2.1 (t.2.2 - 1) i) j)) = (fun j => nI (if j < i + 1 then t.2.1 (t.2.2 - 1) j else t.1 j)) := by
        funext j
        congr 1
        rw [gd_set]
        by_cases e1 : j = i
        · rw [if_pos e1, if_pos (by omega), e1]
        · rw [if_neg e1]
          by_cases e2 : j < i
          · rw [if_pos e2, if_pos (by omega)]
          · rw [if_neg e2, if_neg (by omega)]
      rw [e]
      exact ih (i + 1) (by omega) (by omega)
  have := loop 57 0 (by omega) (by omega)
  rw [show (fun j => nI (if j < 0 then t.2.1 (t.2.2 - 1) j else t.1 j)) = (fun j => nI (t.1 j)) from funext fun j => by rw [if_neg (Nat.not_lt_zero j)], pj_up_id hT1] at this
  exact this
end
