/-! ===== the class: foretold by looks ===== -/
def gd_F (h : pj_H) (f0 : Nat) : Prop := h f0 = some (.inr (3, [.ref (f0 + 1), .ref (f0 + 2), .ref (f0 + 3)])) ∧ (∃ f, h (f0 + 1) = some (.inl (0, 7, .inl f))) ∧ (∃ f, h (f0 + 2) = some (.inl (0, 6, .inl f))) ∧ (∃ f, h (f0 + 3) = some (.inl (0, 896, .inl f)))
/-- an answer, and only the row of looks changes -/
def gd_sc (v : Int32) (h : pj_H) (f0 n : Nat) : Option Value → pj_H → Nat → Prop := fun r h' n' => r = some (.int v) ∧ n' = n ∧ ∃ f, h' = pj_up h (f0 + 1) (.inl (0, 7, .inl f))
theorem gd_F.up {h : pj_H} {f0 : Nat} {f : Nat → Int32} (hF : gd_F h f0) : gd_F (pj_up h (f0 + 1) (.inl (0, 7, .inl f))) f0 := by
  obtain ⟨h1, h2, ⟨f3, h3⟩, ⟨f4, h4⟩⟩ := hF
  exact ⟨by rw [pj_up_n (by omega)]; exact h1, ⟨f, pj_up_s⟩, ⟨f3, by rw [pj_up_n (by omega)]; exact h3⟩, ⟨f4, by rw [pj_up_n (by omega)]; exact h4⟩⟩
section
variable {E : pj_E} {B : Nat} {l : Launch} {h : pj_H} {n k ac f0 : Nat} {τ : Nat → Nat}
theorem c_kindTold {a kd : Nat} (hk : 1 ≤ kd ∧ kd ≤ 5) : pj_Ct E B l (gd_Y_kindTold kd) 1 0 0 [.ref a] h n (pj_is (some (.int (nI kd))) h n) := by
  rcases gd_kd hk.1 hk.2 with rfl | rfl | rfl | rfl | rfl
  · show pj_Ct E B l Y_X1_kindTold _ 0 0 _ h n _
    refine pj_in rfl (ls := [some (.ref a)]) rfl (Nat.le_of_ble_eq_true rfl) ?_
    refine pj_iconst (q := 1) (v := nI 1) (pj_d p_X1_kindTold 0 rfl) rfl (by decide) ?_
    refine pj_iret rfl (pj_d p_X1_kindTold 1 rfl) (by decide) (by decide) ?_
    exact ⟨rfl, rfl, rfl⟩
  · show pj_Ct E B l Y_X10_kindTold _ 0 0 _ h n _
    refine pj_in rfl (ls := [some (.ref a)]) rfl (Nat.le_of_ble_eq_true rfl) ?_
    refine pj_iconst (q := 1) (v := nI 2) (pj_d p_X10_kindTold 0 rfl) rfl (by decide) ?_
    refine pj_iret rfl (pj_d p_X10_kindTold 1 rfl) (by decide) (by decide) ?_
    exact ⟨rfl, rfl, rfl⟩
  · show pj_Ct E B l Y_X6_kindTold _ 0 0 _ h n _
    refine pj_in rfl (ls := [some (.ref a)]) rfl (Nat.le_of_ble_eq_true rfl) ?_
    refine pj_iconst (q := 1) (v := nI 3) (pj_d p_X6_kindTold 0 rfl) rfl (by decide) ?_
    refine pj_iret rfl (pj_d p_X6_kindTold 1 rfl) (by decide) (by decide) ?_
    exact ⟨rfl, rfl, rfl⟩
  · show pj_Ct E B l Y_X4_kindTold _ 0 0 _ h n _
    refine pj_in rfl (ls := [some (.ref a)]) rfl (Nat.le_of_ble_eq_true rfl) ?_
    refine pj_iconst (q := 1) (v := nI 4) (pj_d p_X4_kindTold 0 rfl) rfl (by decide) ?_
    refine pj_iret rfl (pj_d p_X4_kindTold 1 rfl) (by decide) (by decide) ?_
    exact ⟨rfl, rfl, rfl⟩
  · show pj_Ct E B l Y_X2_kindTold _ 0 0 _ h n _
    refine pj_in rfl (ls := [some (.ref a)]) rfl (Nat.le_of_ble_eq_true rfl) ?_
    refine pj_iconst (q := 1) (v := nI 5) (pj_d p_X2_kindTold 0 rfl) rfl (by decide) ?_
    refine pj_iret rfl (pj_d p_X2_kindTold 1 rfl) (by decide) (by decide) ?_
    exact ⟨rfl, rfl, rfl⟩
def gd_looked (τ : Nat → Nat) (st : Nat) (f : Nat → Int32) : Prop := ∀ i, i < τ 1 → f i = nI (gd_lk τ i st)
def gd_la (τ : Nat → Nat) (st : Nat) (h : pj_H) (f0 n : Nat) : Option Value → pj_H → Nat → Prop := fun r h' n' => r = none ∧ n' = n ∧ ∃ f, h' = pj_up h (f0 + 1) (.inl (0, 7, .inl f)) ∧ gd_looked τ st f
theorem c_X3_lookAt (hF : gd_F h f0) (hT : gd_T h k τ ac) (hW : gd_W τ) (hk : f0 + 3 < k) {st : Nat} (hs : st < 32) : pj_Ct E B l Y_X3_lookAt 4 0 0 [.ref f0, .ref k, .int (nI st)] h n (gd_la τ st h f0 n) := by
  have h7 := hW.1
  obtain ⟨f, hf⟩ := hF.2.1
  refine pj_in rfl (ls := [some (.ref f0), some (.ref k), some (.int (nI st)), none]) rfl (Nat.le_of_ble_eq_true rfl) ?_
  refine pj_iconst (q := 1) (v := nI 0) (pj_d p_X3_lookAt 0 rfl) rfl (by decide) ?_
  refine pj_ist3 (q := 2) (pj_d p_X3_lookAt 1 rfl) rfl (by first | rfl | assumption) ?_
  have loop : ∀ m i f, (∀ j, j < i → f j = nI (gd_lk τ j st)) → τ 1 - i < m → i ≤ τ 1 → pj_V E B l Y_X3_lookAt 4 0 0 2 [some (.ref f0), some (.ref k), some (.int (nI st)), some (.int (nI i))] [] (pj_up h (f0 + 1) (.inl (0, 7, .inl f))) n 0 0 (gd_la τ st h f0 n) := by
    intro m
    induction m with
    | zero => intro i f _ hi; omega
    | succ m ih =>
      intro i f hf hi hle
      have hT1 : gd_T (pj_up h (f0 + 1) (.inl (0, 7, .inl f))) k τ ac := hT.up (by omega)
      have t0 := hT1.1
      have F0 := (hF.up (f := f)).1
      have F1 : (pj_up h (f0 + 1) (.inl (0, 7, .inl f))) (f0 + 1) = some (.inl (0, 7, .inl f)) := pj_up_s
      refine pj_ild3 (q := 3) (pj_d p_X3_lookAt 2 rfl) rfl ?_
      refine pj_ald1 (q := 4) (pj_d p_X3_lookAt 3 rfl) rfl ?_
      refine pj_cp (pj_rV (q := 7) (c_X9_thingCount hT1) (pj_d p_X3_lookAt 4 rfl) rfl kX3_23 o_X9_thingCount (by assumption) (by rfl) (by rfl) (by rfl) (by rfl) (Nat.le_of_ble_eq_true rfl) (by decide)) (by decide) (by decide) ?_
      refine pj_icmp_ge (t := 31) (q := 10) (pj_d p_X3_lookAt 5 rfl) rfl (by decide) (fun c1 => ?_) (fun c1 => ?_)
      · have he : i = (τ 1) := by have := gd_ge c1 (by omega) (by omega); omega
        subst he
        refine pj_vret rfl (pj_d p_X3_lookAt 17 rfl) (by decide) (by decide) ?_
        exact ⟨rfl, rfl, f, rfl, hf⟩
      have hlt : i < τ 1 := gd_lt c1 (by omega)
      obtain ⟨ki, -⟩ := hW.2.2.2.2.1 i hlt
      refine pj_ald0 (q := 11) (pj_d p_X3_lookAt 6 rfl) rfl ?_
      refine pj_gf (q := 14) (k := 0) (pj_d p_X3_lookAt 7 rfl) rfl kX3_11 (by assumption) (by rfl) (by rfl) ?_
      refine pj_ild3 (q := 15) (pj_d p_X3_lookAt 8 rfl) rfl ?_
      refine pj_ald1 (q := 16) (pj_d p_X3_lookAt 9 rfl) rfl ?_
      refine pj_ild3 (q := 17) (pj_d p_X3_lookAt 10 rfl) rfl ?_
      refine pj_cp (pj_rV (q := 20) (c_X9_thingAt hT1 h7 hlt) (pj_d p_X3_lookAt 11 rfl) rfl kX3_27 o_X9_thingAt (by assumption) (by rfl) (by rfl) (by rfl) (by rfl) (Nat.le_of_ble_eq_true rfl) (by decide)) (by decide) (by decide) ?_
      refine pj_ild2 (q := 21) (pj_d p_X3_lookAt 12 rfl) rfl ?_
      refine pj_cp (vX3_31 (q := 24) rfl (hT1.2.2.2.1 i hlt) ki (c_lw hT1 hW hlt hs) (pj_d p_X3_lookAt 13 rfl) rfl rfl rfl (Nat.le_of_ble_eq_true rfl) (by decide)) (by decide) (by decide) ?_
      refine pj_iast (q := 25) (pj_d p_X3_lookAt 14 rfl) rfl (by assumption) (by rfl) (by first | assumption | omega) (Nat.le_of_ble_eq_true rfl) ?_
      rw [pj_up_up]
      refine pj_iinc3 (q := 28) (v := 1) (pj_d p_X3_lookAt 15 rfl) rfl (by first | rfl | assumption) (by decide) ?_
      refine pj_goto (t := 2) (pj_d p_X3_lookAt 16 rfl) (by decide) ?_
      rw [nI_1]
      refine ih (i + 1) _ (fun j hj => ?_) (by omega) (by omega)
      by_cases hji : j = i
      · subst hji; simp [upd]
      · simp only [upd, if_neg hji]; exact hf j (by omega)
  have := loop (τ 1 + 1) 0 f (fun j hj => absurd hj (Nat.not_lt_zero j)) (by omega) (by omega)
  rw [pj_up_id hf] at this
  exact this
theorem c_X3_alikeWith (hF : gd_F h f0) (hT : gd_T h k τ ac) (hW : gd_W τ) (hk : f0 + 3 < k) {t d : Nat} (ht : t < τ 1) (hd : d ≤ 1000) : pj_Ct E B l Y_X3_alikeWith 5 0 0 [.ref f0, .ref k, .int (nI t), .int (nI d)] h n (gd_sc (nI (gd_like τ t (gd_miss τ d))) h f0 n) := by
  have h7 := hW.1
  have hs := gd_miss_lt hW d
  have t0 := hT.1
  have F0 := hF.1
  refine pj_in rfl (ls := [some (.ref f0), some (.ref k), some (.int (nI t)), some (.int (nI d)), none, none]) rfl (Nat.le_of_ble_eq_true rfl) ?_
  refine pj_ald0 (q := 1) (pj_d p_X3_alikeWith 0 rfl) rfl ?_
  refine pj_ald1 (q := 2) (pj_d p_X3_alikeWith 1 rfl) rfl ?_
  refine pj_ald1 (q := 3) (pj_d p_X3_alikeWith 2 rfl) rfl ?_
  refine pj_ild3 (q := 4) (pj_d p_X3_alikeWith 3 rfl) rfl ?_
  refine pj_cp (pj_rV (q := 7) (c_X9_missingIn hT hW hd) (pj_d p_X3_alikeWith 4 rfl) rfl kX3_37 o_X9_missingIn (by assumption) (by rfl) (by rfl) (by rfl) (by rfl) (Nat.le_of_ble_eq_true rfl) (by decide)) (by decide) (by decide) ?_
  refine pj_cv (pj_rV (q := 10) (c_X3_lookAt hF hT hW hk hs) (pj_d p_X3_alikeWith 5 rfl) rfl kX3_40 o_X3_lookAt (by assumption) (by rfl) (by rfl) (by rfl) (by rfl) (Nat.le_of_ble_eq_true rfl) (by decide)) (by decide) (by decide) ?_
  rintro r h' n' ⟨rfl, rfl, f, rfl, hf⟩
  show pj_V E B l Y_X3_alikeWith 5 0 0 10 [some (.ref f0), some (.ref k), some (.int (nI t)), some (.int (nI d)), none, none] [] (pj_up h (f0 + 1) (.inl (0, 7, .inl f))) n' 0 0 (gd_sc (nI (gd_like τ t (gd_miss τ d))) h f0 n')
  generalize gd_miss τ d = st at hs hf ⊢
  have hT1 : gd_T (pj_up h (f0 + 1) (.inl (0, 7, .inl f))) k τ ac := hT.up (by omega)
  have t1 := hT1.1
  have F1 := (hF.up (f := f)).1
  have F2 : (pj_up h (f0 + 1) (.inl (0, 7, .inl f))) (f0 + 1) = some (.inl (0, 7, .inl f)) := pj_up_s
  refine pj_iconst (q := 11) (v := nI 0) (pj_d p_X3_alikeWith 6 rfl) rfl (by decide) ?_
  refine pj_ist4 (q := 13) (pj_d p_X3_alikeWith 7 rfl) rfl (by first | rfl | assumption) ?_
  refine pj_iconst (q := 14) (v := nI 0) (pj_d p_X3_alikeWith 8 rfl) rfl (by decide) ?_
  refine pj_ist5 (q := 16) (pj_d p_X3_alikeWith 9 rfl) rfl (by first | rfl | assumption) ?_
  generalize hf' : (fun k => if gd_lk τ k st = gd_lk τ t st then 2 ^ k else 0) = f'
  have hg : gd_like τ t st = gd_sm f' (τ 1) := by rw [← hf']; rfl
  have hlt2 : ∀ m, gd_sm f' m < 2 ^ m := by rw [← hf']; exact gd_like_lt τ t st
  have loop : ∀ m i, (τ 1) - i < m → i ≤ (τ 1) → pj_V E B l Y_X3_alikeWith 5 0 0 16 [some (.ref f0), some (.ref k), some (.int (nI t)), some (.int (nI d)), some (.int (nI (gd_sm f' i))), some (.int (nI i))] [] (pj_up h (f0 + 1) (.inl (0, 7, .inl f))) n' 0 0 (gd_sc (nI (gd_like τ t st)) h f0 n') := by
    intro m
    induction m with
    | zero => intro i hi; omega
    | succ m ih =>
      intro i hi hle
      refine pj_ild5 (q := 18) (pj_d p_X3_alikeWith 10 rfl) rfl ?_
      refine pj_ald1 (q := 19) (pj_d p_X3_alikeWith 11 rfl) rfl ?_
      refine pj_cp (pj_rV (q := 22) (c_X9_thingCount hT1) (pj_d p_X3_alikeWith 12 rfl) rfl kX3_23 o_X9_thingCount (by assumption) (by rfl) (by rfl) (by rfl) (by rfl) (Nat.le_of_ble_eq_true rfl) (by decide)) (by decide) (by decide) ?_
      refine pj_icmp_ge (t := 56) (q := 25) (pj_d p_X3_alikeWith 13 rfl) rfl (by decide) (fun c1 => ?_) (fun c1 => ?_)
      · have he : i = (τ 1) := by have := gd_ge c1 (by omega) (by omega); omega
        subst he
        refine pj_ild4 (q := 58) (pj_d p_X3_alikeWith 31 rfl) rfl ?_
        refine pj_iret rfl (pj_d p_X3_alikeWith 32 rfl) (by decide) (by decide) ?_
        exact ⟨by rw [hg], rfl, f, rfl⟩
      have hlt : i < τ 1 := gd_lt c1 (by omega)
      have la := gd_lk_lt hW hlt hs
      have lb := gd_lk_lt hW ht hs
      refine pj_ald0 (q := 26) (pj_d p_X3_alikeWith 14 rfl) rfl ?_
      refine pj_gf (q := 29) (k := 0) (pj_d p_X3_alikeWith 15 rfl) rfl kX3_11 (by assumption) (by rfl) (by rfl) ?_
      refine pj_ild5 (q := 31) (pj_d p_X3_alikeWith 16 rfl) rfl ?_
      refine pj_ialdN (q := 32) (pj_d p_X3_alikeWith 17 rfl) rfl (by assumption) (by rfl) (by first | assumption | omega) (Nat.le_of_ble_eq_true rfl) ?_
      rw [hf i hlt]
      refine pj_ald0 (q := 33) (pj_d p_X3_alikeWith 18 rfl) rfl ?_
      refine pj_gf (q := 36) (k := 0) (pj_d p_X3_alikeWith 19 rfl) rfl kX3_11 (by assumption) (by rfl) (by rfl) ?_
      refine pj_ild2 (q := 37) (pj_d p_X3_alikeWith 20 rfl) rfl ?_
      refine pj_ialdN (q := 38) (pj_d p_X3_alikeWith 21 rfl) rfl (by assumption) (by rfl) (by first | assumption | omega) (Nat.le_of_ble_eq_true rfl) ?_
      rw [hf t ht]
      have go : ∀ x, x = gd_sm f' (i + 1) → pj_V E B l Y_X3_alikeWith 5 0 0 50 [some (.ref f0), some (.ref k), some (.int (nI t)), some (.int (nI d)), some (.int (nI x)), some (.int (nI i))] [] (pj_up h (f0 + 1) (.inl (0, 7, .inl f))) n' 0 0 (gd_sc (nI (gd_like τ t st)) h f0 n') := by
        intro x hx
        subst hx
        refine pj_iinc5 (q := 53) (v := 1) (pj_d p_X3_alikeWith 29 rfl) rfl (by first | rfl | assumption) (by decide) ?_
        refine pj_goto (t := 16) (pj_d p_X3_alikeWith 30 rfl) (by decide) ?_
        rw [nI_1]
        exact ih (i + 1) (by omega) (by omega)
      refine pj_icmp_ne (t := 50) (q := 41) (pj_d p_X3_alikeWith 22 rfl) rfl (by decide) (fun c2 => ?_) (fun c2 => ?_)
      · have hne : ¬ gd_lk τ i st = gd_lk τ t st := fun q => c2 (by rw [q])
        exact go _ (by rw [gd_sm, ← hf']; simp only [if_neg hne]; rfl)
      · have heq := (nI_eq (by omega) (by omega)).mp c2
        refine pj_ild4 (q := 43) (pj_d p_X3_alikeWith 23 rfl) rfl ?_
        refine pj_iconst (q := 44) (v := nI 1) (pj_d p_X3_alikeWith 24 rfl) rfl (by decide) ?_
        refine pj_ild5 (q := 46) (pj_d p_X3_alikeWith 25 rfl) rfl ?_
        refine pj_ishl (q := 47) (pj_d p_X3_alikeWith 26 rfl) rfl ?_
        rw [gd_shl1 i (by omega)]
        refine pj_ior (q := 48) (pj_d p_X3_alikeWith 27 rfl) rfl ?_
        rw [gd_or2 i (by omega) _ (hlt2 i)]
        refine pj_ist4 (q := 50) (pj_d p_X3_alikeWith 28 rfl) rfl (by first | rfl | assumption) ?_
        exact go _ (by rw [gd_sm, ← hf']; simp only [if_pos heq])
  exact loop (τ 1 + 1) 0 (by omega) (by omega)
theorem c_X3_unlikeLooks (hF : gd_F h f0) (hT : gd_T h k τ ac) (hW : gd_W τ) (hk : f0 + 3 < k) {d : Nat} (hd : d ≤ 1000) : pj_Ct E B l Y_X3_unlikeLooks 6 0 0 [.ref f0, .ref k, .int (nI d)] h n (gd_sc (nI (gd_looks τ (gd_miss τ d))) h f0 n) := by
  have h7 := hW.1
  obtain ⟨f, hf⟩ := hF.2.1
  refine pj_in rfl (ls := [some (.ref f0), some (.ref k), some (.int (nI d)), none, none, none]) rfl (Nat.le_of_ble_eq_true rfl) ?_
  refine pj_iconst (q := 1) (v := nI 0) (pj_d p_X3_unlikeLooks 0 rfl) rfl (by decide) ?_
  refine pj_ist3 (q := 2) (pj_d p_X3_unlikeLooks 1 rfl) rfl (by first | rfl | assumption) ?_
  refine pj_iconst (q := 3) (v := nI 0) (pj_d p_X3_unlikeLooks 2 rfl) rfl (by decide) ?_
  refine pj_ist4 (q := 5) (pj_d p_X3_unlikeLooks 3 rfl) rfl (by first | rfl | assumption) ?_
  generalize hf' : (fun i => if gd_like τ i (gd_miss τ d) % 2 ^ i = 0 then 1 else 0) = f'
  have hg : gd_looks τ (gd_miss τ d) = gd_sm f' (τ 1) := by rw [← hf']; rfl
  have loop : ∀ m i f o5, pj_c1 o5 = true → τ 1 - i < m → i ≤ τ 1 → pj_V E B l Y_X3_unlikeLooks 6 0 0 5 [some (.ref f0), some (.ref k), some (.int (nI d)), some (.int (nI (gd_sm f' i))), some (.int (nI i)), o5] [] (pj_up h (f0 + 1) (.inl (0, 7, .inl f))) n 0 0 (gd_sc (nI (gd_looks τ (gd_miss τ d))) h f0 n) := by
    intro m
    induction m with
    | zero => intro i f o5 _ hi; omega
    | succ m ih =>
      intro i f o5 k5 hi hle
      have hT1 : gd_T (pj_up h (f0 + 1) (.inl (0, 7, .inl f))) k τ ac := hT.up (by omega)
      have t0 := hT1.1
      have F0 := (hF.up (f := f)).1
      refine pj_ild4 (q := 7) (pj_d p_X3_unlikeLooks 4 rfl) rfl ?_
      refine pj_ald1 (q := 8) (pj_d p_X3_unlikeLooks 5 rfl) rfl ?_
      refine pj_cp (pj_rV (q := 11) (c_X9_thingCount hT1) (pj_d p_X3_unlikeLooks 6 rfl) rfl kX3_23 o_X9_thingCount (by assumption) (by rfl) (by rfl) (by rfl) (by rfl) (Nat.le_of_ble_eq_true rfl) (by decide)) (by decide) (by decide) ?_
      refine pj_icmp_ge (t := 45) (q := 14) (pj_d p_X3_unlikeLooks 7 rfl) rfl (by decide) (fun c1 => ?_) (fun c1 => ?_)
      · have he : i = (τ 1) := by have := gd_ge c1 (by omega) (by omega); omega
        subst he
        refine pj_ild3 (q := 46) (pj_d p_X3_unlikeLooks 25 rfl) rfl ?_
        refine pj_iret rfl (pj_d p_X3_unlikeLooks 26 rfl) (by decide) (by decide) ?_
        exact ⟨by rw [hg], rfl, f, rfl⟩
      have hlt : i < τ 1 := gd_lt c1 (by omega)
      refine pj_iconst (q := 15) (v := nI 1) (pj_d p_X3_unlikeLooks 8 rfl) rfl (by decide) ?_
      refine pj_ild4 (q := 17) (pj_d p_X3_unlikeLooks 9 rfl) rfl ?_
      refine pj_ishl (q := 18) (pj_d p_X3_unlikeLooks 10 rfl) rfl ?_
      rw [gd_shl1 i (by omega)]
      refine pj_iconst (q := 19) (v := nI 1) (pj_d p_X3_unlikeLooks 11 rfl) rfl (by decide) ?_
      refine pj_isub (q := 20) (pj_d p_X3_unlikeLooks 12 rfl) rfl ?_
      refine pj_ist5 (q := 22) (pj_d p_X3_unlikeLooks 13 rfl) rfl (by first | rfl | assumption) ?_
      refine pj_ald0 (q := 23) (pj_d p_X3_unlikeLooks 14 rfl) rfl ?_
      refine pj_ald1 (q := 24) (pj_d p_X3_unlikeLooks 15 rfl) rfl ?_
      refine pj_ild4 (q := 26) (pj_d p_X3_unlikeLooks 16 rfl) rfl ?_
      refine pj_ild2 (q := 27) (pj_d p_X3_unlikeLooks 17 rfl) rfl ?_
      refine pj_cv (pj_rV (q := 30) (c_X3_alikeWith (hF.up (f := f)) hT1 hW hk hlt hd) (pj_d p_X3_unlikeLooks 18 rfl) rfl kX3_44 o_X3_alikeWith (by assumption) (by rfl) (by rfl) (by rfl) (by rfl) (Nat.le_of_ble_eq_true rfl) (by decide)) (by decide) (by decide) ?_
      rintro r h' n' ⟨rfl, rfl, f2, rfl⟩
      rw [pj_up_up]
      show pj_V E B l Y_X3_unlikeLooks 6 0 0 30 _ [.int (nI (gd_like τ i (gd_miss τ d)))] _ n' 0 0 _
      have hb := gd_like128 h7 i (gd_miss τ d)
      refine pj_ild5 (q := 32) (pj_d p_X3_unlikeLooks 19 rfl) rfl ?_
      refine pj_iand (q := 33) (pj_d p_X3_unlikeLooks 20 rfl) rfl ?_
      rw [gd_andm i (by omega) _ hb]
      have hb2 := Nat.mod_le (gd_like τ i (gd_miss τ d)) (2 ^ i)
      refine pj_if_ne (t := 39) (q := 36) (pj_d p_X3_unlikeLooks 21 rfl) rfl (by decide) (fun c2 => ?_) (fun c2 => ?_)
      · have hne : ¬ gd_like τ i (gd_miss τ d) % 2 ^ i = 0 := fun q => c2 (by rw [q]; rfl)
        refine pj_iinc4 (q := 42) (v := 1) (pj_d p_X3_unlikeLooks 23 rfl) rfl (by first | rfl | assumption) (by decide) ?_
        refine pj_goto (t := 5) (pj_d p_X3_unlikeLooks 24 rfl) (by decide) ?_
        rw [nI_1]
        have := ih (i + 1) f2 (some (.int (nI (2 ^ i) - nI 1))) rfl (by omega) (by omega)
        rw [show gd_sm f' (i + 1) = gd_sm f' i by rw [gd_sm, ← hf']; simp only [if_neg hne]; rfl] at this
        exact this
      · have heq := (nI_eq (by omega) (by omega)).mp (c2.trans nI_0.symm)
        refine pj_iinc3 (q := 39) (v := 1) (pj_d p_X3_unlikeLooks 22 rfl) rfl (by first | rfl | assumption) (by decide) ?_
        refine pj_iinc4 (q := 42) (v := 1) (pj_d p_X3_unlikeLooks 23 rfl) rfl (by first | rfl | assumption) (by decide) ?_
        refine pj_goto (t := 5) (pj_d p_X3_unlikeLooks 24 rfl) (by decide) ?_
        rw [nI_1, nI_1]
        have := ih (i + 1) f2 (some (.int (nI (2 ^ i) - nI 1))) rfl (by omega) (by omega)
        rw [show gd_sm f' (i + 1) = gd_sm f' i + 1 by rw [gd_sm, ← hf']; simp only [if_pos heq]] at this
        exact this
  have := loop (τ 1 + 1) 0 f none rfl (by omega) (by omega)
  rw [pj_up_id hf] at this
  exact this
end
