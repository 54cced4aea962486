/-! ===== images ===== -/
def gd_D (τ : Nat → Nat) (i j d : Nat) : Nat → Nat := fun z => if z = 1 then i else if z = 2 then j else if z = 3 then d else τ z
theorem gd_D_n {τ : Nat → Nat} {i j d z : Nat} (h : 3 < z) : gd_D τ i j d z = τ z := by rw [gd_D, if_neg (by omega), if_neg (by omega), if_neg (by omega)]
theorem gd_D_T (τ : Nat → Nat) (i : Nat) : gd_addT (gd_D τ i 0 0) (τ (11 + 3 * i)) (τ (12 + 3 * i)) (τ (13 + 3 * i)) = gd_D τ (i + 1) 0 0 := by
  funext z
  have e : gd_D τ i 0 0 1 = i := rfl
  by_cases z1 : z = 1
  · subst z1; rfl
  · by_cases h : z < 11 + 3 * i ∨ 13 + 3 * i < z
    · rw [gd_addT_n z1 (by rw [e]; exact h), gd_D, gd_D, if_neg z1, if_neg z1]
    · have K := gd_addT_k (τ := gd_D τ i 0 0) (kd := τ (11 + 3 * i)) (mx := τ (12 + 3 * i)) (sh := τ (13 + 3 * i))
      rw [e] at K
      have : z = 11 + 3 * i ∨ z = 12 + 3 * i ∨ z = 13 + 3 * i := by omega
      rcases this with rfl | rfl | rfl
      · rw [K.1, gd_D_n (by omega)]
      · rw [K.2.1, gd_D_n (by omega)]
      · rw [K.2.2, gd_D_n (by omega)]
theorem gd_D_P (τ : Nat → Nat) (c j : Nat) : gd_addP (gd_D τ c j 0) (τ (32 + 3 * j)) (τ (33 + 3 * j)) (τ (34 + 3 * j)) = gd_D τ c (j + 1) 0 := by
  funext z
  have e : gd_D τ c j 0 2 = j := rfl
  by_cases z1 : z = 2
  · subst z1; rfl
  · by_cases h : z < 32 + 3 * j ∨ 34 + 3 * j < z
    · rw [gd_addP_n z1 (by rw [e]; exact h), gd_D, gd_D, if_neg z1, if_neg z1]
    · have K := gd_addP_k (τ := gd_D τ c j 0) (a := τ (32 + 3 * j)) (b := τ (33 + 3 * j)) (hm := τ (34 + 3 * j))
      rw [e] at K
      have : z = 32 + 3 * j ∨ z = 33 + 3 * j ∨ z = 34 + 3 * j := by omega
      rcases this with rfl | rfl | rfl
      · rw [K.1, gd_D_n (by omega)]
      · rw [K.2.1, gd_D_n (by omega)]
      · rw [K.2.2, gd_D_n (by omega)]
theorem gd_D_all (τ : Nat → Nat) : gd_D τ (τ 1) (τ 2) (τ 3) = τ := by
  funext z
  rw [gd_D]
  split
  · rename_i e; rw [e]
  · split
    · rename_i e; rw [e]
    · split
      · rename_i e; rw [e]
      · rfl
def gd_PD (τ : Nat → Nat) (h : pj_H) (n : Nat) : Option Value → pj_H → Nat → Prop := fun r h' n' => r = some (.ref n) ∧ n' = n + 9 + τ 1 ∧ gd_T h' n τ 0 ∧ gd_AX h' n (τ, (fun _ _ => 0), 0) ∧ ∀ q, q < n → h' q = h q
section
variable {E : pj_E} {B : Nat} {l : Launch} {h : pj_H} {n k ac : Nat} {τ : Nat → Nat}
theorem c_X9_duplicate (hT : gd_T h k τ ac) (hW : gd_W τ) (hB : B ≤ n) (hk : k + 9 + τ 1 ≤ n) : pj_Ct E B l Y_X9_duplicate 5 16 143 [.ref k] h n (gd_PD τ h n) := by
  have h7 := hW.1
  have h8 := hW.2.1
  refine pj_in rfl (ls := [some (.ref k), none, none]) rfl (Nat.le_of_ble_eq_true rfl) ?_
  refine pj_new (q := 3) (ci := 8) (fs := [.null, .null, .int 0, .null, .null, .null, .int 0, .int 0, .null, .null, .null, .int 0]) (pj_d p_X9_duplicate 0 rfl) rfl kX9_7 iX9 zX9 rfl tyX9 tyX9_ok (fun j hj => by match j, hj with | 0, _ => rfl | 1, _ => rfl | 2, _ => rfl | 3, _ => rfl | 4, _ => rfl | 5, _ => rfl | 6, _ => rfl | 7, _ => rfl | 8, _ => rfl | 9, _ => rfl | 10, _ => rfl | 11, _ => rfl | j + 12, hj => exact absurd hj (by omega)) (by omega) (by omega) (by omega) ?_
  refine pj_dup (q := 4) (pj_d p_X9_duplicate 1 rfl) rfl rfl ?_
  refine pj_cv (pj_rI (q := 7) (c_X9_init pj_up_s rfl hB) (pj_d p_X9_duplicate 2 rfl) rfl kX9_37 o_X9_init (by rfl) (by rfl) (Nat.le_of_ble_eq_true rfl) (by decide)) (by decide) (by decide) ?_
  rintro r1 h1 n1 ⟨rfl, rfl, T1, A1, q1'⟩
  have q1 : ∀ q, q < n → h1 q = h q := fun q hq => by rw [q1' q hq, pj_up_n (by omega)]
  clear q1'
  have hT1 : gd_T h1 k τ ac := hT.out (fun q _ _ => q1 q (by omega))
  obtain ⟨fd, gd1, -⟩ := T1.2.1
  obtain ⟨fc, gc1, gc2⟩ := hT1.2.1
  have s0 : h1 n = some (.inr (8, gd_Tl n 0 0 0 0)) := T1.1
  have k0 := hT1.1
  refine pj_ast1 (q := 8) (pj_d p_X9_duplicate 3 rfl) rfl (by first | rfl | assumption) ?_
  refine pj_iconst (q := 9) (v := nI 0) (pj_d p_X9_duplicate 4 rfl) rfl (by decide) ?_
  refine pj_ist2 (q := 10) (pj_d p_X9_duplicate 5 rfl) rfl (by first | rfl | assumption) ?_
  have loop1 : ∀ m i f, (∀ j, j < i → f j = nI (τ (4 + j))) → 7 - i < m → i ≤ 7 → pj_V E B l Y_X9_duplicate 5 16 143 10 [some (.ref k), some (.ref n), some (.int (nI i))] [] (pj_up h1 (n + 1) (.inl (0, 7, .inl f))) (n + 9) 9 122 (gd_PD τ h n) := by
    intro m
    induction m with
    | zero => intro i f _ hi; omega
    | succ m ih =>
      intro i f hf hi hle
      refine pj_ild2 (q := 11) (pj_d p_X9_duplicate 6 rfl) rfl ?_
      refine pj_bipush (q := 13) (v := nI 7) (pj_d p_X9_duplicate 7 rfl) rfl (by decide) ?_
      refine pj_icmp_ge (t := 34) (q := 16) (pj_d p_X9_duplicate 8 rfl) rfl (by decide) (fun c1 => ?_) (fun c1 => ?_)
      · have he : i = 7 := by have := gd_ge c1 (by omega) (by omega); omega
        subst he
        -- the things
        have T2 : gd_T (pj_up h1 (n + 1) (.inl (0, 7, .inl f))) n (gd_D τ 0 0 0) 0 := by
          obtain ⟨d0, -, ⟨f2, b2, c2⟩, -, ⟨f3, b3, c3⟩, ⟨f4, b4, c4⟩, ⟨f5, b5, c5⟩⟩ := T1
          exact ⟨by rw [pj_up_n (by omega)]; exact d0, ⟨f, pj_up_s, fun j hj => by rw [gd_D_n (by omega)]; exact hf j hj⟩, ⟨f2, by rw [pj_up_n (by omega)]; exact b2, fun i hi => absurd hi (Nat.not_lt_zero i)⟩, fun i hi => absurd hi (Nat.not_lt_zero i), ⟨f3, by rw [pj_up_n (by omega)]; exact b3, fun i hi => absurd hi (Nat.not_lt_zero i)⟩, ⟨f4, by rw [pj_up_n (by omega)]; exact b4, fun i hi => absurd hi (Nat.not_lt_zero i)⟩, ⟨f5, by rw [pj_up_n (by omega)]; exact b5, fun i hi => absurd hi (Nat.not_lt_zero i)⟩⟩
        have A2 : gd_AX (pj_up h1 (n + 1) (.inl (0, 7, .inl f))) n ((fun _ => 0), (fun _ _ => 0), 0) := A1.out (fun q _ _ => pj_up_n (by omega))
        have Q2 : ∀ q, q < n → (pj_up h1 (n + 1) (.inl (0, 7, .inl f))) q = h q := fun q hq => by rw [pj_up_n (by omega), q1 q hq]
        generalize pj_up h1 (n + 1) (.inl (0, 7, .inl f)) = h2 at T2 A2 Q2 ⊢
        refine pj_iconst (q := 35) (v := nI 0) (pj_d p_X9_duplicate 19 rfl) rfl (by decide) ?_
        refine pj_ist2 (q := 36) (pj_d p_X9_duplicate 20 rfl) rfl (by first | rfl | assumption) ?_
        have pairs : ∀ m j h', gd_T h' n (gd_D τ (τ 1) j 0) 0 → gd_AX h' n ((fun _ => 0), (fun _ _ => 0), 0) → (∀ q, q < n → h' q = h q) → τ 2 - j < m → j ≤ τ 2 → pj_V E B l Y_X9_duplicate 5 16 143 83 [some (.ref k), some (.ref n), some (.int (nI j))] [] h' (n + 9 + τ 1) (9 + τ 1) (122 + 3 * τ 1) (gd_PD τ h n) := by
          intro m
          induction m with
          | zero => intro j h' _ _ _ hi; omega
          | succ m ih =>
            intro j h' T3 A3 Q3 hi hle
            have hT3 : gd_T h' k τ ac := hT.out (fun q _ _ => Q3 q (by omega))
            have k3 := hT3.1
            refine pj_ild2 (q := 84) (pj_d p_X9_duplicate 46 rfl) rfl ?_
            refine pj_ald0 (q := 85) (pj_d p_X9_duplicate 47 rfl) rfl ?_
            refine pj_gf (q := 88) (k := 6) (pj_d p_X9_duplicate 48 rfl) rfl kX9_56 (by repeat first | assumption | exact pj_up_s | refine (pj_up_n (by omega)).trans ?_) (by rfl) (by rfl) ?_
            refine pj_icmp_ge (t := 119) (q := 91) (pj_d p_X9_duplicate 49 rfl) rfl (by decide) (fun c2 => ?_) (fun c2 => ?_)
            · have he : j = (τ 2) := by have := gd_ge c2 (by omega) (by omega); omega
              subst he
              have s3 : h' n = some (.inr (8, gd_Tl n (τ 1) (τ 2) 0 0)) := T3.1
              refine pj_ald1 (q := 120) (pj_d p_X9_duplicate 66 rfl) rfl ?_
              refine pj_ald0 (q := 121) (pj_d p_X9_duplicate 67 rfl) rfl ?_
              refine pj_gf (q := 124) (k := 7) (pj_d p_X9_duplicate 68 rfl) rfl kX9_62 (by repeat first | assumption | exact pj_up_s | refine (pj_up_n (by omega)).trans ?_) (by rfl) (by rfl) ?_
              refine pj_pf (q := 127) (k := 7) (fs' := gd_Tl n (τ 1) (τ 2) (τ 3) 0) (pj_d p_X9_duplicate 69 rfl) rfl kX9_62 (by repeat first | assumption | exact pj_up_s | refine (pj_up_n (by omega)).trans ?_) (by rfl) (Or.inl rfl) (by rfl) (by rfl) (by rfl) (by show 7 < 12; decide) (by rfl) ?_
              refine pj_ald1 (q := 128) (pj_d p_X9_duplicate 70 rfl) rfl ?_
              refine pj_aret rfl (pj_d p_X9_duplicate 71 rfl) (by first | decide | omega) (by first | decide | omega) ?_
              refine ⟨rfl, rfl, ?_, gd_AX0 (A3.out (fun q _ _ => pj_up_n (by omega))), fun q hq => by rw [pj_up_n (by omega), Q3 q hq]⟩
              obtain ⟨f1, x1, x2⟩ := T3.2.1
              exact T3.of h8 pj_up_s rfl rfl (fun j hj => (gd_D_n (by omega)).symm) ⟨f1, by rw [pj_up_n (by omega)]; exact x1, fun j hj => by rw [x2 j hj, gd_D_n (by omega)]⟩ (fun i hi => by
                rw [pj_up_n (by omega), T3.2.2.2.1 i hi, gd_D_n (by omega), gd_D_n (by omega), gd_D_n (by omega)]) (fun q _ _ => pj_up_n (by omega))
            have hlt : j < τ 2 := gd_lt c2 (by omega)
            obtain ⟨g3, x3, y3⟩ := hT3.2.2.2.2.1
            obtain ⟨g4, x4, y4⟩ := hT3.2.2.2.2.2.1
            obtain ⟨g5, x5, y5⟩ := hT3.2.2.2.2.2.2
            have n3 := T3.1
            refine pj_ald1 (q := 92) (pj_d p_X9_duplicate 50 rfl) rfl ?_
            refine pj_ald0 (q := 93) (pj_d p_X9_duplicate 51 rfl) rfl ?_
            refine pj_gf (q := 96) (k := 3) (pj_d p_X9_duplicate 52 rfl) rfl kX9_19 (by repeat first | assumption | exact pj_up_s | refine (pj_up_n (by omega)).trans ?_) (by rfl) (by rfl) ?_
            refine pj_ild2 (q := 97) (pj_d p_X9_duplicate 53 rfl) rfl ?_
            refine pj_ialdN (q := 98) (pj_d p_X9_duplicate 54 rfl) rfl (by repeat first | assumption | exact pj_up_s | refine (pj_up_n (by omega)).trans ?_) (by rfl) (by first | assumption | omega) (Nat.le_of_ble_eq_true rfl) ?_
            rw [y3 j hlt]
            refine pj_ald0 (q := 99) (pj_d p_X9_duplicate 55 rfl) rfl ?_
            refine pj_gf (q := 102) (k := 4) (pj_d p_X9_duplicate 56 rfl) rfl kX9_22 (by repeat first | assumption | exact pj_up_s | refine (pj_up_n (by omega)).trans ?_) (by rfl) (by rfl) ?_
            refine pj_ild2 (q := 103) (pj_d p_X9_duplicate 57 rfl) rfl ?_
            refine pj_ialdN (q := 104) (pj_d p_X9_duplicate 58 rfl) rfl (by repeat first | assumption | exact pj_up_s | refine (pj_up_n (by omega)).trans ?_) (by rfl) (by first | assumption | omega) (Nat.le_of_ble_eq_true rfl) ?_
            rw [y4 j hlt]
            refine pj_ald0 (q := 105) (pj_d p_X9_duplicate 59 rfl) rfl ?_
            refine pj_gf (q := 108) (k := 5) (pj_d p_X9_duplicate 60 rfl) rfl kX9_25 (by repeat first | assumption | exact pj_up_s | refine (pj_up_n (by omega)).trans ?_) (by rfl) (by rfl) ?_
            refine pj_ild2 (q := 109) (pj_d p_X9_duplicate 61 rfl) rfl ?_
            refine pj_ialdN (q := 110) (pj_d p_X9_duplicate 62 rfl) rfl (by repeat first | assumption | exact pj_up_s | refine (pj_up_n (by omega)).trans ?_) (by rfl) (by first | assumption | omega) (Nat.le_of_ble_eq_true rfl) ?_
            rw [y5 j hlt]
            refine pj_cv (pj_rV (q := 113) (c_X9_addPair T3 h7 (show gd_D τ (τ 1) j 0 2 < 8 from (by show j < 8; omega)) (τ (32 + 3 * j)) (τ (33 + 3 * j)) (τ (34 + 3 * j))) (pj_d p_X9_duplicate 63 rfl) rfl kX9_59 o_X9_addPair (by repeat first | assumption | exact pj_up_s | refine (pj_up_n (by omega)).trans ?_) (by rfl) (by rfl) (by rfl) (by rfl) (Nat.le_of_ble_eq_true rfl) (by decide)) (by omega) (by omega) ?_
            rintro r4 h4 n4 ⟨rfl, rfl, T4, Q4⟩
            rw [gd_D_P] at T4
            refine pj_iinc2 (q := 116) (v := 1) (pj_d p_X9_duplicate 64 rfl) rfl (by first | rfl | assumption) (by decide) ?_
            refine pj_goto (t := 83) (pj_d p_X9_duplicate 65 rfl) (by decide) ?_
            rw [nI_1]
            exact ih (j + 1) h4 T4 (A3.out (fun q _ _ => Q4 q (by omega) (by omega) (by omega) (by omega))) (fun q hq => by rw [Q4 q (by omega) (by omega) (by omega) (by omega), Q3 q hq]) (by omega) (by omega)
        have things : ∀ m i h', gd_T h' n (gd_D τ i 0 0) 0 → gd_AX h' n ((fun _ => 0), (fun _ _ => 0), 0) → (∀ q, q < n → h' q = h q) → τ 1 - i < m → i ≤ τ 1 → pj_V E B l Y_X9_duplicate 5 16 143 36 [some (.ref k), some (.ref n), some (.int (nI i))] [] h' (n + 9 + i) (9 + i) (122 + 3 * i) (gd_PD τ h n) := by
          intro m
          induction m with
          | zero => intro i h' _ _ _ hi; omega
          | succ m ih =>
            intro i h' T3 A3 Q3 hi hle
            have hT3 : gd_T h' k τ ac := hT.out (fun q _ _ => Q3 q (by omega))
            have k3 := hT3.1
            refine pj_ild2 (q := 37) (pj_d p_X9_duplicate 21 rfl) rfl ?_
            refine pj_ald0 (q := 38) (pj_d p_X9_duplicate 22 rfl) rfl ?_
            refine pj_gf (q := 41) (k := 2) (pj_d p_X9_duplicate 23 rfl) rfl kX9_38 (by repeat first | assumption | exact pj_up_s | refine (pj_up_n (by omega)).trans ?_) (by rfl) (by rfl) ?_
            refine pj_icmp_ge (t := 81) (q := 44) (pj_d p_X9_duplicate 24 rfl) rfl (by decide) (fun c2 => ?_) (fun c2 => ?_)
            · have he : i = (τ 1) := by have := gd_ge c2 (by omega) (by omega); omega
              subst he
              refine pj_iconst (q := 82) (v := nI 0) (pj_d p_X9_duplicate 44 rfl) rfl (by decide) ?_
              refine pj_ist2 (q := 83) (pj_d p_X9_duplicate 45 rfl) rfl (by first | rfl | assumption) ?_
              exact pairs (τ 2 + 1) 0 h' T3 A3 Q3 (by omega) (by omega)
            have hlt : i < τ 1 := gd_lt c2 (by omega)
            obtain ⟨g2, x2, y2⟩ := hT3.2.2.1
            have ta := hT3.2.2.2.1 i hlt
            have ki := (hW.2.2.2.2.1 i hlt).1
            have n3 := T3.1
            refine pj_ald1 (q := 45) (pj_d p_X9_duplicate 25 rfl) rfl ?_
            refine pj_ald0 (q := 46) (pj_d p_X9_duplicate 26 rfl) rfl ?_
            refine pj_gf (q := 49) (k := 1) (pj_d p_X9_duplicate 27 rfl) rfl kX9_15 (by repeat first | assumption | exact pj_up_s | refine (pj_up_n (by omega)).trans ?_) (by rfl) (by rfl) ?_
            refine pj_ild2 (q := 50) (pj_d p_X9_duplicate 28 rfl) rfl ?_
            refine pj_aald (t := 2) (q := 51) rfl rfl (pj_d p_X9_duplicate 29 rfl) rfl x2 (by rfl) (by first | assumption | omega) (by decide) ?_
            rw [y2 i hlt]
            refine pj_cp (vX9_42 (q := 54) rfl ta ki (c_kindTold ki) (pj_d p_X9_duplicate 30 rfl) rfl rfl rfl (Nat.le_of_ble_eq_true rfl) (by decide)) (by omega) (by omega) ?_
            refine pj_ald0 (q := 55) (pj_d p_X9_duplicate 31 rfl) rfl ?_
            refine pj_gf (q := 58) (k := 1) (pj_d p_X9_duplicate 32 rfl) rfl kX9_15 (by repeat first | assumption | exact pj_up_s | refine (pj_up_n (by omega)).trans ?_) (by rfl) (by rfl) ?_
            refine pj_ild2 (q := 59) (pj_d p_X9_duplicate 33 rfl) rfl ?_
            refine pj_aald (t := 2) (q := 60) rfl rfl (pj_d p_X9_duplicate 34 rfl) rfl x2 (by rfl) (by first | assumption | omega) (by decide) ?_
            rw [y2 i hlt]
            refine pj_cp (vX9_46 (q := 63) rfl ta ki (c_X8_mixed ta ki) (pj_d p_X9_duplicate 35 rfl) rfl rfl rfl (Nat.le_of_ble_eq_true rfl) (by decide)) (by omega) (by omega) ?_
            refine pj_ald0 (q := 64) (pj_d p_X9_duplicate 36 rfl) rfl ?_
            refine pj_gf (q := 67) (k := 1) (pj_d p_X9_duplicate 37 rfl) rfl kX9_15 (by repeat first | assumption | exact pj_up_s | refine (pj_up_n (by omega)).trans ?_) (by rfl) (by rfl) ?_
            refine pj_ild2 (q := 68) (pj_d p_X9_duplicate 38 rfl) rfl ?_
            refine pj_aald (t := 2) (q := 69) rfl rfl (pj_d p_X9_duplicate 39 rfl) rfl x2 (by rfl) (by first | assumption | omega) (by decide) ?_
            rw [y2 i hlt]
            refine pj_cp (vX9_49 (q := 72) rfl ta ki (c_X8_shaped (ci := 0) ta ki) (pj_d p_X9_duplicate 40 rfl) rfl rfl rfl (Nat.le_of_ble_eq_true rfl) (by decide)) (by omega) (by omega) ?_
            refine pj_cv (pj_rV (q := 75) (c_X9_addThing T3 (show gd_D τ i 0 0 1 < 7 from (by show i < 7; omega)) (show gd_D τ i 0 0 2 ≤ 8 from Nat.zero_le _) rfl (by omega) ki) (pj_d p_X9_duplicate 41 rfl) rfl kX9_52 o_X9_addThing (by repeat first | assumption | exact pj_up_s | refine (pj_up_n (by omega)).trans ?_) (by rfl) (by rfl) (by rfl) (by rfl) (Nat.le_of_ble_eq_true rfl) (by decide)) (by omega) (by omega) ?_
            rintro r4 h4 n4 ⟨rfl, rfl, T4, Q4⟩
            rw [gd_D_T] at T4
            refine pj_iinc2 (q := 78) (v := 1) (pj_d p_X9_duplicate 42 rfl) rfl (by first | rfl | assumption) (by decide) ?_
            refine pj_goto (t := 36) (pj_d p_X9_duplicate 43 rfl) (by decide) ?_
            rw [nI_1]
            have := ih (i + 1) h4 T4 (A3.out (fun q _ _ => Q4 q (by omega) (by omega) (by omega))) (fun q hq => by rw [Q4 q (by omega) (by omega) (by omega), Q3 q hq]) (by omega) (by omega)
            rw [show 122 + 3 * (i + 1) = 122 + 3 * i + 3 by omega] at this
            exact this
        exact things (τ 1 + 1) 0 h2 T2 A2 Q2 (by omega) (by omega)
      have hlt : i < 7 := gd_lt c1 (by omega)
      refine pj_ald1 (q := 17) (pj_d p_X9_duplicate 9 rfl) rfl ?_
      refine pj_gf (q := 20) (k := 0) (pj_d p_X9_duplicate 10 rfl) rfl kX9_9 (by repeat first | assumption | exact pj_up_s | refine (pj_up_n (by omega)).trans ?_) (by rfl) (by rfl) ?_
      refine pj_ild2 (q := 21) (pj_d p_X9_duplicate 11 rfl) rfl ?_
      refine pj_ald0 (q := 22) (pj_d p_X9_duplicate 12 rfl) rfl ?_
      refine pj_gf (q := 25) (k := 0) (pj_d p_X9_duplicate 13 rfl) rfl kX9_9 (by repeat first | assumption | exact pj_up_s | refine (pj_up_n (by omega)).trans ?_) (by rfl) (by rfl) ?_
      refine pj_ild2 (q := 26) (pj_d p_X9_duplicate 14 rfl) rfl ?_
      refine pj_ialdN (q := 27) (pj_d p_X9_duplicate 15 rfl) rfl (by repeat first | assumption | exact pj_up_s | refine (pj_up_n (by omega)).trans ?_) (by rfl) (by first | assumption | omega) (Nat.le_of_ble_eq_true rfl) ?_
      rw [gc2 i hlt]
      refine pj_iast (q := 28) (pj_d p_X9_duplicate 16 rfl) rfl (by repeat first | assumption | exact pj_up_s | refine (pj_up_n (by omega)).trans ?_) (by rfl) (by first | assumption | omega) (Nat.le_of_ble_eq_true rfl) ?_
      rw [pj_up_up]
      refine pj_iinc2 (q := 31) (v := 1) (pj_d p_X9_duplicate 17 rfl) rfl (by first | rfl | assumption) (by decide) ?_
      refine pj_goto (t := 10) (pj_d p_X9_duplicate 18 rfl) (by decide) ?_
      rw [nI_1]
      refine ih (i + 1) _ (fun j hj => ?_) (by omega) (by omega)
      rw [gd_upd]
      by_cases e : j = i
      · rw [if_pos e, e]
      · rw [if_neg e]; exact hf j (by omega)
  have := loop1 8 0 fd (fun j hj => absurd hj (Nat.not_lt_zero j)) (by omega) (by omega)
  rw [pj_up_id gd1] at this
  exact this
end
abbrev gd_I : Type := Nat → Option (Nat → Nat)
def gd_IX (h : pj_H) (b n : Nat) (fo : Nat → Option Nat) (I : gd_I) : Prop := h (b + 21) = some (.inl (3, 2, .inr (.inr (.inr (.inr fo))))) ∧ ∀ i, i < 2 → (fo i = none ∧ I i = none) ∨ (∃ k κ, fo i = some k ∧ I i = some κ ∧ gd_T h k κ 0 ∧ b + 35 ≤ k ∧ k + 9 + κ 1 ≤ n ∧ gd_W κ ∧ κ 0 = 1)
def gd_IM (h : pj_H) (g : Nat) (I : gd_I) : Prop := ∃ fz fk, h (g + 10) = some (.inl (1, 2, .inl fz)) ∧ h (g + 11) = some (.inl (0, 112, .inl fk)) ∧ ∀ i, i < 2 → (I i = none ∧ fz i = 0) ∨ (∃ κ, I i = some κ ∧ fz i = nI 1 ∧ ∀ z, z < 56 → fk (56 * i + z) = nI (κ z))
def gd_can (i : Int32) (τ : Nat → Nat) : Bool := gd_rng i 0 1 && decide (τ 0 = 1)
def sp_image (i : Int32) (τ : Nat → Nat) (I : gd_I) : Int32 × gd_I := if gd_rng i 0 1 then (if τ 0 = 1 then (nI 1, fun j => if j = i.toNatClampNeg then some τ else I j) else (-1000002, I)) else (-1000001, I)
def gd_res (κ : Nat → Nat) (t : gd_TT) : gd_TT := ((fun z => if z < 56 then κ z else t.1 z), t.2.1, 0)
def sp_restore (i : Int32) (t : gd_TT) (I : gd_I) : Int32 × gd_TT := if gd_rng i 0 1 then (match I i.toNatClampNeg with | some κ => (nI 1, gd_res κ t) | none => (-1000002, t)) else (-1000001, t)
def gd_PI (x : Int32) (I' : gd_I) (h : pj_H) (b : Nat) (fo : Nat → Option Nat) (n : Nat) : Option Value → pj_H → Nat → Prop := fun r h' n' => r = some (.int x) ∧ n ≤ n' ∧ (∃ fo', gd_IX h' b n' fo' I') ∧ ∀ q, q < n → q ≠ b + 21 → h' q = h q
def gd_PR (x : Int32) (t t' : gd_TT) (h : pj_H) (b n : Nat) (po : Option Nat) (lf st : Int32) : Option Value → pj_H → Nat → Prop := fun r h' n' => r = some (.int x) ∧ n ≤ n' ∧ ((t' = t ∧ n' = n ∧ h' = h) ∨ ∃ k, n ≤ k ∧ k + 9 + t'.1 1 ≤ n' ∧ gd_T h' k t'.1 t'.2.2 ∧ gd_AX h' k t' ∧ t'.1 0 = 1 ∧ h' b = some (.inr (10, gd_XO b (some k) lf st)) ∧ ∀ q, q < n → q ≠ b → h' q = h q)
theorem gd_WT_res {t : gd_TT} {κ : Nat → Nat} (hW : gd_W κ) (h0 : κ 0 = 1) : gd_WT (gd_res κ t) := by
  have e : (gd_res κ t).1 0 = 1 := by show (if 0 < 56 then κ 0 else t.1 0) = 1; rw [if_pos (by omega), h0]
  exact ⟨gd_W_cong hW (fun i hi => if_pos hi), Nat.le_of_eq e, Nat.zero_le _, Or.inl e, fun j hj => absurd hj (Nat.not_lt_zero j)⟩
section
variable {E : pj_E} {B : Nat} {l : Launch} {h : pj_H} {n b : Nat} {po : Option Nat} {lf st : Int32} {t : gd_TT} {fo : Nat → Option Nat} {I : gd_I}
theorem gd_aastT {Y : pj_Y} {d mc ms pc q : Nat} {ls : List (Option Value)} {s : List Value} {ce sl : Nat} {Q : Option Value → pj_H → Nat → Prop} {a j v : Nat} {f : Nat → Option Nat} {vs : List Value} {i : Int32} (hd : decode Y.2.1 pc = .ok (.aastore, 1)) (hq : pc + 1 = q) (ha : h a = some (.inl (3, 2, .inr (.inr (.inr (.inr f)))))) (hv : h v = some (.inr (8, vs))) (hi : i = nI j) (hj : j < 2) (kk : pj_V E B l Y d mc ms q ls s (pj_up h a (.inl (3, 2, .inr (.inr (.inr (.inr (va_up f j (some v)))))))) n ce sl Q) : pj_V E B l Y d mc ms pc ls (.ref v :: .int i :: .ref a :: s) h n ce sl Q := pj_aast (t := 3) (C := "GreyDays$Town") rfl (Or.inl rfl) (r := (RX9, TX9, 12)) rfl hd hq ha hv hi hj (by decide) kk
theorem c_X11_image (hX : gd_XR h b po lf st t.1 t.2.2) (hI : gd_IX h b n fo I) (hB : B ≤ n) (hbn : b + 35 ≤ n) (hk : ∀ k, po = some k → k + 9 + t.1 1 ≤ n) (i : Int32) : pj_Ct E B l Y_X11_image 6 16 143 [.ref b, .int i] h n (gd_PI (sp_image i t.1 I).1 (sp_image i t.1 I).2 h b fo n) := by
  obtain ⟨hx, hF, hW, hp⟩ := hX
  have i0 := hI.1
  refine pj_in rfl (ls := [some (.ref b), some (.int (i))]) rfl (Nat.le_of_ble_eq_true rfl) ?_
  have bad : gd_rng i 0 1 = false → pj_V E B l Y_X11_image 6 16 143 9 [some (.ref b), some (.int (i))] [] h n 0 0 (gd_PI (sp_image i t.1 I).1 (sp_image i t.1 I).2 h b fo n) := by
    intro hd
    refine pj_ldc (q := 11) (pj_d p_X11_image 5 rfl) rfl kX11_47 ?_
    refine pj_iret rfl (pj_d p_X11_image 6 rfl) (by decide) (by decide) ?_
    rw [sp_image, hd]
    exact ⟨rfl, Nat.le_refl _, ⟨fo, hI⟩, fun _ _ _ => rfl⟩
  refine pj_ild1 (q := 1) (pj_d p_X11_image 0 rfl) rfl ?_
  refine pj_if_lt (t := 9) (q := 4) (pj_d p_X11_image 1 rfl) rfl (by decide) (fun c1 => ?_) (fun c1 => ?_)
  · exact bad (gd_rng_lo (lo := 0) (by decide) c1)
  refine pj_ild1 (q := 5) (pj_d p_X11_image 2 rfl) rfl ?_
  refine pj_iconst (q := 6) (v := nI 2) (pj_d p_X11_image 3 rfl) rfl (by decide) ?_
  refine pj_icmp_lt (t := 12) (q := 9) (pj_d p_X11_image 4 rfl) rfl (by decide) (fun c2 => ?_) (fun c2 => ?_)
  rotate_left
  · rw [Int32.not_lt] at c2
    exact bad (gd_rng_ge (hi := 1) (by decide) c2)
  have e1 : gd_rng i 0 1 = true := gd_rng_in' (hi := 1) (by decide) c1 (by rw [Int32.not_le]; exact c2)
  obtain ⟨j, hj, rfl, hc⟩ := gd_rng_of (hi := 1) e1
  cases po with
  | none =>
    obtain ⟨p0, p1⟩ := hp
    have hx : h b = some (.inr (10, [.ref (b + 1), .ref (b + 13), .ref (b + 15), .ref (b + 19), .ref (b + 21), .null, .int lf, .int st])) := hx
    refine pj_ald0 (q := 13) (pj_d p_X11_image 7 rfl) rfl ?_
    refine pj_gf (q := 16) (k := 5) (pj_d p_X11_image 8 rfl) rfl kX11_102 (by repeat first | assumption | exact pj_up_s | refine (pj_up_n (by omega)).trans ?_) (by rfl) (by rfl) ?_
    refine pj_ifnonnullN (q := 19) (pj_d p_X11_image 9 rfl) rfl ?_
    refine pj_ldc (q := 21) (pj_d p_X11_image 10 rfl) rfl kX11_112 ?_
    refine pj_iret rfl (pj_d p_X11_image 11 rfl) (by decide) (by decide) ?_
    rw [sp_image, e1, if_neg (show ¬ t.1 0 = 1 by omega)]
    exact ⟨rfl, Nat.le_refl _, ⟨fo, hI⟩, fun _ _ _ => rfl⟩
  | some k =>
    obtain ⟨hk5, p0, hT⟩ := hp
    have hx : h b = some (.inr (10, [.ref (b + 1), .ref (b + 13), .ref (b + 15), .ref (b + 19), .ref (b + 21), .ref k, .int lf, .int st])) := hx
    have t0 := hT.1
    have hkn := hk k rfl
    refine pj_ald0 (q := 13) (pj_d p_X11_image 7 rfl) rfl ?_
    refine pj_gf (q := 16) (k := 5) (pj_d p_X11_image 8 rfl) rfl kX11_102 (by repeat first | assumption | exact pj_up_s | refine (pj_up_n (by omega)).trans ?_) (by rfl) (by rfl) ?_
    refine pj_ifnonnull (t := 22) (pj_d p_X11_image 9 rfl) (by decide) ?_
    refine pj_ald0 (q := 23) (pj_d p_X11_image 12 rfl) rfl ?_
    refine pj_gf (q := 26) (k := 4) (pj_d p_X11_image 13 rfl) rfl kX11_39 (by repeat first | assumption | exact pj_up_s | refine (pj_up_n (by omega)).trans ?_) (by rfl) (by rfl) ?_
    refine pj_ild1 (q := 27) (pj_d p_X11_image 14 rfl) rfl ?_
    refine pj_ald0 (q := 28) (pj_d p_X11_image 15 rfl) rfl ?_
    refine pj_gf (q := 31) (k := 5) (pj_d p_X11_image 16 rfl) rfl kX11_102 (by repeat first | assumption | exact pj_up_s | refine (pj_up_n (by omega)).trans ?_) (by rfl) (by rfl) ?_
    refine pj_cv (pj_rV (q := 34) (c_X9_duplicate hT hW hB hkn) (pj_d p_X11_image 17 rfl) rfl kX11_254 o_X9_duplicate (by repeat first | assumption | exact pj_up_s | refine (pj_up_n (by omega)).trans ?_) (by rfl) (by rfl) (by rfl) (by rfl) (Nat.le_of_ble_eq_true rfl) (by decide)) (by omega) (by omega) ?_
    rintro r1 h1 n1 ⟨rfl, rfl, T1, A1, Q1⟩
    have i1 : h1 (b + 21) = _ := (Q1 _ (by omega)).trans i0
    refine gd_aastT (q := 35) (pj_d p_X11_image 18 rfl) rfl i1 T1.1 rfl (show j < 2 by omega) ?_
    refine pj_iconst (q := 36) (v := nI 1) (pj_d p_X11_image 19 rfl) rfl (by decide) ?_
    refine pj_iret rfl (pj_d p_X11_image 20 rfl) (by decide) (by decide) ?_
    have hsp : sp_image (nI j) t.1 I = (nI 1, fun z => if z = j then some t.1 else I z) := by rw [sp_image, e1, if_pos p0, hc]; rfl
    rw [hsp]
    refine ⟨rfl, by omega, ⟨_, pj_up_s, fun z hz => ?_⟩, fun q q1 q2 => by rw [pj_up_n q2, Q1 q q1]⟩
    show ((if z = j then some n else fo z) = none ∧ (if z = j then some t.1 else I z) = none) ∨ _
    by_cases e : z = j
    · right
      refine ⟨n, t.1, if_pos e, if_pos e, T1.out (fun q q1 q2 => pj_up_n (by omega)), hbn, Nat.le_refl _, hW, p0⟩
    · rcases hI.2 z hz with ⟨x1, x2⟩ | ⟨k', κ, x1, x2, x3, x4, x5, x6, x7⟩
      · left
        rw [if_neg e, if_neg e]
        exact ⟨x1, x2⟩
      · right
        exact ⟨k', κ, (if_neg e).trans x1, (if_neg e).trans x2, x3.out (fun q q1 q2 => by rw [pj_up_n (by omega), Q1 q (by omega)]), x4, by omega, x6, x7⟩
theorem c_X11_restore (hx : h b = some (.inr (10, gd_XO b po lf st))) (hI : gd_IX h b n fo I) (hB : B ≤ n) (hbn : b + 35 ≤ n) (i : Int32) : pj_Ct E B l Y_X11_restore 6 16 143 [.ref b, .int i] h n (gd_PR (sp_restore i t I).1 t (sp_restore i t I).2 h b n po lf st) := by
  have i0 := hI.1
  refine pj_in rfl (ls := [some (.ref b), some (.int (i)), none]) rfl (Nat.le_of_ble_eq_true rfl) ?_
  have bad : gd_rng i 0 1 = false → pj_V E B l Y_X11_restore 6 16 143 9 [some (.ref b), some (.int (i)), none] [] h n 0 0 (gd_PR (sp_restore i t I).1 t (sp_restore i t I).2 h b n po lf st) := by
    intro hd
    refine pj_ldc (q := 11) (pj_d p_X11_restore 5 rfl) rfl kX11_47 ?_
    refine pj_iret rfl (pj_d p_X11_restore 6 rfl) (by decide) (by decide) ?_
    rw [sp_restore, hd]
    exact ⟨rfl, Nat.le_refl _, Or.inl ⟨rfl, rfl, rfl⟩⟩
  refine pj_ild1 (q := 1) (pj_d p_X11_restore 0 rfl) rfl ?_
  refine pj_if_lt (t := 9) (q := 4) (pj_d p_X11_restore 1 rfl) rfl (by decide) (fun c1 => ?_) (fun c1 => ?_)
  · exact bad (gd_rng_lo (lo := 0) (by decide) c1)
  refine pj_ild1 (q := 5) (pj_d p_X11_restore 2 rfl) rfl ?_
  refine pj_iconst (q := 6) (v := nI 2) (pj_d p_X11_restore 3 rfl) rfl (by decide) ?_
  refine pj_icmp_lt (t := 12) (q := 9) (pj_d p_X11_restore 4 rfl) rfl (by decide) (fun c2 => ?_) (fun c2 => ?_)
  rotate_left
  · rw [Int32.not_lt] at c2
    exact bad (gd_rng_ge (hi := 1) (by decide) c2)
  have e1 : gd_rng i 0 1 = true := gd_rng_in' (hi := 1) (by decide) c1 (by rw [Int32.not_le]; exact c2)
  obtain ⟨j, hj, rfl, hc⟩ := gd_rng_of (hi := 1) e1
  refine pj_ald0 (q := 13) (pj_d p_X11_restore 7 rfl) rfl ?_
  refine pj_gf (q := 16) (k := 4) (pj_d p_X11_restore 8 rfl) rfl kX11_39 (by repeat first | assumption | exact pj_up_s | refine (pj_up_n (by omega)).trans ?_) (by rfl) (by rfl) ?_
  refine pj_ild1 (q := 17) (pj_d p_X11_restore 9 rfl) rfl ?_
  rcases hI.2 j (by omega) with ⟨x1, x2⟩ | ⟨k', κ, x1, x2, x3, x4, x5, x6, x7⟩
  · refine pj_aald (t := 3) (q := 18) rfl rfl (pj_d p_X11_restore 10 rfl) rfl i0 rfl (show j < 2 by omega) (by decide) ?_
    rw [x1]
    show pj_V E B l _ _ _ _ _ _ [.null] _ _ _ _ _
    refine pj_astN2 (q := 19) (pj_d p_X11_restore 11 rfl) rfl (by first | rfl | assumption) ?_
    refine pj_aldN2 (q := 20) (pj_d p_X11_restore 12 rfl) rfl ?_
    refine pj_ifnonnullN (q := 23) (pj_d p_X11_restore 13 rfl) rfl ?_
    refine pj_ldc (q := 25) (pj_d p_X11_restore 14 rfl) rfl kX11_112 ?_
    refine pj_iret rfl (pj_d p_X11_restore 15 rfl) (by decide) (by decide) ?_
    rw [sp_restore, e1, hc, x2]
    exact ⟨rfl, Nat.le_refl _, Or.inl ⟨rfl, rfl, rfl⟩⟩
  · refine pj_aald (t := 3) (q := 18) rfl rfl (pj_d p_X11_restore 10 rfl) rfl i0 rfl (show j < 2 by omega) (by decide) ?_
    rw [x1]
    show pj_V E B l _ _ _ _ _ _ [.ref k'] _ _ _ _ _
    have y0 := x3.1
    refine pj_ast2 (q := 19) (pj_d p_X11_restore 11 rfl) rfl (by first | rfl | assumption) ?_
    refine pj_ald2 (q := 20) (pj_d p_X11_restore 12 rfl) rfl ?_
    refine pj_ifnonnull (t := 26) (pj_d p_X11_restore 13 rfl) (by decide) ?_
    refine pj_ald0 (q := 27) (pj_d p_X11_restore 16 rfl) rfl ?_
    refine pj_ald2 (q := 28) (pj_d p_X11_restore 17 rfl) rfl ?_
    refine pj_cv (pj_rV (q := 31) (c_X9_duplicate x3 x6 hB x5) (pj_d p_X11_restore 18 rfl) rfl kX11_254 o_X9_duplicate (by repeat first | assumption | exact pj_up_s | refine (pj_up_n (by omega)).trans ?_) (by rfl) (by rfl) (by rfl) (by rfl) (Nat.le_of_ble_eq_true rfl) (by decide)) (by omega) (by omega) ?_
    rintro r1 h1 n1 ⟨rfl, rfl, T1, A1, Q1⟩
    have hx1 : h1 b = some (.inr (10, gd_XO b po lf st)) := (Q1 _ (by omega)).trans hx
    refine pj_pf (q := 34) (k := 5) (fs' := gd_XO b (some n) lf st) (pj_d p_X11_restore 19 rfl) rfl kX11_102 (by repeat first | assumption | exact pj_up_s | refine (pj_up_n (by omega)).trans ?_) (by rfl) (Or.inl rfl) (by rfl) (by rfl) (by rfl) (by show 5 < 8; decide) (by rfl) ?_
    refine pj_iconst (q := 35) (v := nI 1) (pj_d p_X11_restore 20 rfl) rfl (by decide) ?_
    refine pj_iret rfl (pj_d p_X11_restore 21 rfl) (by decide) (by decide) ?_
    have hsp : sp_restore (nI j) t I = (nI 1, gd_res κ t) := by rw [sp_restore, e1, hc, x2]; rfl
    rw [hsp]
    have e56 : (gd_res κ t).1 1 = κ 1 := by show (if 1 < 56 then κ 1 else t.1 1) = κ 1; exact if_pos (by omega)
    have e57 : (gd_res κ t).1 0 = 1 := by show (if 0 < 56 then κ 0 else t.1 0) = 1; rw [if_pos (by omega), x7]
    refine ⟨rfl, by omega, Or.inr ⟨n, Nat.le_refl _, Nat.le_of_eq (by rw [show (nI 1, gd_res κ t).2.1 1 = κ 1 from e56]), ?_, gd_AX0 (A1.out (fun q _ _ => pj_up_n (by omega))), e57, pj_up_s, fun q q1 q2 => by rw [pj_up_n q2, Q1 q q1]⟩⟩
    exact gd_T_cong (T1.out (fun q q1 q2 => pj_up_n (by omega))) x6.1 x6.2.1 (fun z hz => if_pos hz)
end
section
variable {E : pj_E} {B : Nat} {l : Launch} {h : pj_H} {n g : Nat} {v : Nat → Int32} {t : gd_TT} {I : gd_I} {τ : Nat → Nat}
theorem c_X12_image (hR : gd_MR h g v τ) (hI : gd_IM h g I) (i : Int32) : pj_Ct E B l Y_X12_image 2 0 0 [.ref g, .int i] h n (fun r h' n' => r = some (.int (sp_image i τ I).1) ∧ n' = n ∧ gd_IM h' g (sp_image i τ I).2 ∧ ∀ q, q ≠ g + 10 → q ≠ g + 11 → h' q = h q) := by
  obtain ⟨hM, hT, hv, hW, h1⟩ := hR
  refine pj_in rfl (ls := [some (.ref g), some (.int (i)), none]) rfl (Nat.le_of_ble_eq_true rfl) ?_
  refine gd_thr (pj_d p_X12_image 0 rfl) (pj_d p_X12_image 1 rfl) (pj_d p_X12_image 2 rfl) rfl hM hv ?_
  refine pj_ild1 (q := 6) (pj_d p_X12_image 3 rfl) rfl ?_
  refine pj_i2l (q := 7) (pj_d p_X12_image 4 rfl) rfl ?_
  refine pj_lconst (q := 8) (v := lN 0) (pj_d p_X12_image 5 rfl) rfl (by decide) ?_
  refine pj_lconst (q := 9) (v := lN 1) (pj_d p_X12_image 6 rfl) rfl (by decide) ?_
  refine pj_cp (pj_rS (q := 12) (c_X12_in i (lN 0) (lN 1) 0 1 (by decide) (by decide)) (pj_d p_X12_image 7 rfl) rfl kX12_57 o_X12_in (by rfl) (by rfl) (Nat.le_of_ble_eq_true rfl) (by decide)) (by decide) (by decide) ?_
  refine pj_if_ne (t := 18) (q := 15) (pj_d p_X12_image 8 rfl) rfl (by decide) (fun c1 => ?_) (fun c1 => ?_)
  rotate_left
  · refine pj_ldc (q := 17) (pj_d p_X12_image 9 rfl) rfl kX12_67 ?_
    refine pj_iret rfl (pj_d p_X12_image 10 rfl) (by decide) (by decide) ?_
    rw [sp_image, (gd_b_z _).mp c1]
    exact ⟨rfl, rfl, hI, fun _ _ _ => rfl⟩
  have e1 := (gd_b_n _).mp c1
  obtain ⟨j, hj, rfl, hc⟩ := gd_rng_of (hi := 1) e1
  refine pj_ald0 (q := 19) (pj_d p_X12_image 11 rfl) rfl ?_
  refine pj_cp (pj_rV (q := 22) (c_X12_isThere hM hT h1) (pj_d p_X12_image 12 rfl) rfl kX12_176 o_X12_isThere (by repeat first | assumption | exact pj_up_s | refine (pj_up_n (by omega)).trans ?_) (by rfl) (by rfl) (by rfl) (by rfl) (Nat.le_of_ble_eq_true rfl) (by decide)) (by decide) (by decide) ?_
  refine pj_if_ne (t := 28) (q := 25) (pj_d p_X12_image 13 rfl) rfl (by decide) (fun c2 => ?_) (fun c2 => ?_)
  rotate_left
  · have ht := gd_dec_f c2
    refine pj_ldc (q := 27) (pj_d p_X12_image 14 rfl) rfl kX12_179 ?_
    refine pj_iret rfl (pj_d p_X12_image 15 rfl) (by decide) (by decide) ?_
    rw [sp_image, e1, if_neg ht]
    exact ⟨rfl, rfl, hI, fun _ _ _ => rfl⟩
  have ht := gd_dec_t c2
  have hsp : sp_image (nI j) τ I = (nI 1, fun z => if z = j then some τ else I z) := by rw [sp_image, e1, if_pos ht, hc]; rfl
  rw [hsp]
  obtain ⟨fz, fk, k0, k1, kI⟩ := hI
  refine pj_iconst (q := 29) (v := nI 0) (pj_d p_X12_image 16 rfl) rfl (by decide) ?_
  refine pj_ist2 (q := 30) (pj_d p_X12_image 17 rfl) rfl (by first | rfl | assumption) ?_
  have loop : ∀ m i f, (∀ z, z < i → f (56 * j + z) = nI (τ z)) → (∀ w z, w < 2 → w ≠ j → z < 56 → f (56 * w + z) = fk (56 * w + z)) → 56 - i < m → i ≤ 56 → pj_V E B l Y_X12_image 2 0 0 30 [some (.ref g), some (.int (nI j)), some (.int (nI i))] [] (pj_up h (g + 11) (.inl (0, 112, .inl f))) n 0 0 (fun r h' n' => r = some (.int (nI 1, fun z => if z = j then some τ else I z).1) ∧ n' = n ∧ gd_IM h' g (nI 1, fun z => if z = j then some τ else I z).2 ∧ ∀ q, q ≠ g + 10 → q ≠ g + 11 → h' q = h q) := by
    intro m
    induction m with
    | zero => intro i f _ _ hi; omega
    | succ m ih =>
      intro i f hf hf2 hi hle
      refine pj_ild2 (q := 31) (pj_d p_X12_image 18 rfl) rfl ?_
      refine pj_bipush (q := 33) (v := nI 56) (pj_d p_X12_image 19 rfl) rfl (by decide) ?_
      refine pj_icmp_ge (t := 59) (q := 36) (pj_d p_X12_image 20 rfl) rfl (by decide) (fun c3 => ?_) (fun c3 => ?_)
      · have he : i = 56 := by have := gd_ge c3 (by omega) (by omega); omega
        subst he
        refine pj_ald0 (q := 60) (pj_d p_X12_image 35 rfl) rfl ?_
        refine pj_gf (q := 63) (k := 20) (pj_d p_X12_image 36 rfl) rfl kX12_37 (by repeat first | assumption | exact pj_up_s | refine (pj_up_n (by omega)).trans ?_) (by rfl) (by rfl) ?_
        refine pj_ild1 (q := 64) (pj_d p_X12_image 37 rfl) rfl ?_
        refine pj_iconst (q := 65) (v := nI 1) (pj_d p_X12_image 38 rfl) rfl (by decide) ?_
        refine pj_zast (N := 2) (f := fz) (q := 66) (j := j) (by rfl) (pj_d p_X12_image 39 rfl) rfl ((pj_up_n (by omega)).trans k0) rfl (by omega) (by decide) ?_
        refine pj_iconst (q := 67) (v := nI 1) (pj_d p_X12_image 40 rfl) rfl (by decide) ?_
        refine pj_iret rfl (pj_d p_X12_image 41 rfl) (by decide) (by decide) ?_
        refine ⟨rfl, rfl, ⟨_, f, pj_up_s, (pj_up_n (by omega)).trans pj_up_s, fun z hz => ?_⟩, fun q q1 q2 => by rw [pj_up_n q1, pj_up_n q2]⟩
        show ((if z = j then some τ else I z) = none ∧ _) ∨ ∃ κ, (if z = j then some τ else I z) = some κ ∧ _
        by_cases e : z = j
        · right
          exact ⟨τ, if_pos e, by rw [gd_upd, if_pos e], fun y hy => by rw [e]; exact hf y hy⟩
        · rcases kI z hz with ⟨x1, x2⟩ | ⟨κ, x1, x2, x3⟩
          · left
            exact ⟨(if_neg e).trans x1, by rw [gd_upd, if_neg e]; exact x2⟩
          · right
            exact ⟨κ, (if_neg e).trans x1, by rw [gd_upd, if_neg e]; exact x2, fun y hy => by rw [hf2 z y hz e hy]; exact x3 y hy⟩
      have hlt : i < 56 := gd_lt c3 (by omega)
      refine pj_ald0 (q := 37) (pj_d p_X12_image 21 rfl) rfl ?_
      refine pj_gf (q := 40) (k := 21) (pj_d p_X12_image 22 rfl) rfl kX12_41 (by repeat first | assumption | exact pj_up_s | refine (pj_up_n (by omega)).trans ?_) (by rfl) (by rfl) ?_
      refine pj_bipush (q := 42) (v := nI 56) (pj_d p_X12_image 23 rfl) rfl (by decide) ?_
      refine pj_ild1 (q := 43) (pj_d p_X12_image 24 rfl) rfl ?_
      refine pj_imul (q := 44) (pj_d p_X12_image 25 rfl) rfl ?_
      rw [pk_mul]
      refine pj_ild2 (q := 45) (pj_d p_X12_image 26 rfl) rfl ?_
      refine pj_iadd (q := 46) (pj_d p_X12_image 27 rfl) rfl ?_
      rw [nI_add]
      refine pj_ald0 (q := 47) (pj_d p_X12_image 28 rfl) rfl ?_
      refine pj_gf (q := 50) (k := 5) (pj_d p_X12_image 29 rfl) rfl kX12_19 (by repeat first | assumption | exact pj_up_s | refine (pj_up_n (by omega)).trans ?_) (by rfl) (by rfl) ?_
      refine pj_ild2 (q := 51) (pj_d p_X12_image 30 rfl) rfl ?_
      refine pj_ialdN (q := 52) (pj_d p_X12_image 31 rfl) rfl (by repeat first | assumption | exact pj_up_s | refine (pj_up_n (by omega)).trans ?_) (by rfl) (by first | assumption | omega) (Nat.le_of_ble_eq_true rfl) ?_
      refine pj_iast (q := 53) (pj_d p_X12_image 32 rfl) rfl (by repeat first | assumption | exact pj_up_s | refine (pj_up_n (by omega)).trans ?_) (by rfl) (by first | assumption | omega) (Nat.le_of_ble_eq_true rfl) ?_
      rw [pj_up_up]
      refine pj_iinc2 (q := 56) (v := 1) (pj_d p_X12_image 33 rfl) rfl (by first | rfl | assumption) (by decide) ?_
      refine pj_goto (t := 30) (pj_d p_X12_image 34 rfl) (by decide) ?_
      rw [nI_1]
      refine ih (i + 1) _ (fun z hz => ?_) (fun w z hw hne hz => ?_) (by omega) (by omega)
      · rw [gd_upd]
        by_cases e : z = i
        · rw [if_pos (by omega), e]
        · rw [if_neg (by omega)]; exact hf z (by omega)
      · rw [gd_upd, if_neg (by omega)]; exact hf2 w z hw hne hz
  have := loop 57 0 fk (fun z hz => absurd hz (Nat.not_lt_zero z)) (fun _ _ _ _ _ => rfl) (by omega) (by omega)
  rw [pj_up_id k1] at this
  exact this
theorem c_X12_restore (hM : h g = some (.inr (11, gd_Mo g v))) (hv : v 0 = nI 0) (hT : h (g + 4) = some (.inl (0, 56, .inl (fun j => nI (t.1 j))))) (hA : gd_AM h g t.2.1 t.2.2) (h8 : v 8 = nI t.2.2) (hI : gd_IM h g I) (i : Int32) : pj_Ct E B l Y_X12_restore 2 0 0 [.ref g, .int i] h n (gd_PT (sp_restore i t I).1 (sp_restore i t I).2 h g v n) := by
  refine pj_in rfl (ls := [some (.ref g), some (.int (i)), none]) rfl (Nat.le_of_ble_eq_true rfl) ?_
  refine gd_thr (pj_d p_X12_restore 0 rfl) (pj_d p_X12_restore 1 rfl) (pj_d p_X12_restore 2 rfl) rfl hM hv ?_
  refine pj_ild1 (q := 6) (pj_d p_X12_restore 3 rfl) rfl ?_
  refine pj_i2l (q := 7) (pj_d p_X12_restore 4 rfl) rfl ?_
  refine pj_lconst (q := 8) (v := lN 0) (pj_d p_X12_restore 5 rfl) rfl (by decide) ?_
  refine pj_lconst (q := 9) (v := lN 1) (pj_d p_X12_restore 6 rfl) rfl (by decide) ?_
  refine pj_cp (pj_rS (q := 12) (c_X12_in i (lN 0) (lN 1) 0 1 (by decide) (by decide)) (pj_d p_X12_restore 7 rfl) rfl kX12_57 o_X12_in (by rfl) (by rfl) (Nat.le_of_ble_eq_true rfl) (by decide)) (by decide) (by decide) ?_
  refine pj_if_ne (t := 18) (q := 15) (pj_d p_X12_restore 8 rfl) rfl (by decide) (fun c1 => ?_) (fun c1 => ?_)
  rotate_left
  · refine pj_ldc (q := 17) (pj_d p_X12_restore 9 rfl) rfl kX12_67 ?_
    refine pj_iret rfl (pj_d p_X12_restore 10 rfl) (by decide) (by decide) ?_
    exact gd_PT_same hM hT hA h8 (by rw [sp_restore, (gd_b_z _).mp c1]; rfl)
  have e1 := (gd_b_n _).mp c1
  obtain ⟨j, hj, rfl, hc⟩ := gd_rng_of (hi := 1) e1
  obtain ⟨fz, fk, k0, k1, kI⟩ := hI
  refine pj_ald0 (q := 19) (pj_d p_X12_restore 11 rfl) rfl ?_
  refine pj_gf (q := 22) (k := 20) (pj_d p_X12_restore 12 rfl) rfl kX12_37 (by repeat first | assumption | exact pj_up_s | refine (pj_up_n (by omega)).trans ?_) (by rfl) (by rfl) ?_
  refine pj_ild1 (q := 23) (pj_d p_X12_restore 13 rfl) rfl ?_
  refine pj_zald (q := 24) (pj_d p_X12_restore 14 rfl) rfl (by repeat first | assumption | exact pj_up_s | refine (pj_up_n (by omega)).trans ?_) (by rfl) (by first | assumption | omega) (Nat.le_of_ble_eq_true rfl) ?_
  rcases kI j (by omega) with ⟨x1, x2⟩ | ⟨κ, x1, x2, x3⟩
  · rw [x2]
    refine pj_if_ne (t := 30) (q := 27) (pj_d p_X12_restore 15 rfl) rfl (by decide) (fun c2 => ?_) (fun c2 => ?_)
    · exact absurd rfl c2
    refine pj_ldc (q := 29) (pj_d p_X12_restore 16 rfl) rfl kX12_179 ?_
    refine pj_iret rfl (pj_d p_X12_restore 17 rfl) (by decide) (by decide) ?_
    exact gd_PT_same hM hT hA h8 (by rw [sp_restore, e1, hc, x1]; rfl)
  rw [x2]
  refine pj_if_ne (t := 30) (q := 27) (pj_d p_X12_restore 15 rfl) rfl (by decide) (fun c2 => ?_) (fun c2 => ?_)
  rotate_left
  · exact absurd c2 (by decide)
  rw [show sp_restore (nI j) t I = (nI 1, gd_res κ t) by rw [sp_restore, e1, hc, x1]; rfl]
  refine pj_iconst (q := 31) (v := nI 0) (pj_d p_X12_restore 18 rfl) rfl (by decide) ?_
  refine pj_ist2 (q := 32) (pj_d p_X12_restore 19 rfl) rfl (by first | rfl | assumption) ?_
  have loop : ∀ m i, 56 - i < m → i ≤ 56 → pj_V E B l Y_X12_restore 2 0 0 32 [some (.ref g), some (.int (nI j)), some (.int (nI i))] [] (pj_up h (g + 4) (.inl (0, 56, .inl (fun z => nI (if z < i then κ z else t.1 z))))) n 0 0 (gd_PT (nI 1, gd_res κ t).1 (nI 1, gd_res κ t).2 h g v n) := by
    intro m
    induction m with
    | zero => intro i hi; omega
    | succ m ih =>
      intro i hi hle
      refine pj_ild2 (q := 33) (pj_d p_X12_restore 20 rfl) rfl ?_
      refine pj_bipush (q := 35) (v := nI 56) (pj_d p_X12_restore 21 rfl) rfl (by decide) ?_
      refine pj_icmp_ge (t := 61) (q := 38) (pj_d p_X12_restore 22 rfl) rfl (by decide) (fun c3 => ?_) (fun c3 => ?_)
      · have he : i = 56 := by have := gd_ge c3 (by omega) (by omega); omega
        subst he
        refine pj_ald0 (q := 62) (pj_d p_X12_restore 37 rfl) rfl ?_
        refine pj_iconst (q := 63) (v := nI 0) (pj_d p_X12_restore 38 rfl) rfl (by decide) ?_
        refine pj_pf (q := 66) (k := 8) (fs' := gd_Mo g (upd v 8 (nI 0))) (pj_d p_X12_restore 39 rfl) rfl kX12_150 (by repeat first | assumption | exact pj_up_s | refine (pj_up_n (by omega)).trans ?_) (by rfl) (Or.inl rfl) (by rfl) (by rfl) (by rfl) (by show 8 < 24; decide) (by rfl) ?_
        refine pj_iconst (q := 67) (v := nI 1) (pj_d p_X12_restore 40 rfl) rfl (by decide) ?_
        refine pj_iret rfl (pj_d p_X12_restore 41 rfl) (by decide) (by decide) ?_
        obtain ⟨f, f1, f2⟩ := hA
        exact ⟨rfl, rfl, pj_up_s, (pj_up_n (by omega)).trans pj_up_s, ⟨f, (pj_up_n (by omega)).trans ((pj_up_n (by omega)).trans f1), fun j k hj => absurd hj (Nat.not_lt_zero j)⟩, fun q q1 q2 q3 => by rw [pj_up_n q1, pj_up_n q2]⟩
      have hlt : i < 56 := gd_lt c3 (by omega)
      refine pj_ald0 (q := 39) (pj_d p_X12_restore 23 rfl) rfl ?_
      refine pj_gf (q := 42) (k := 5) (pj_d p_X12_restore 24 rfl) rfl kX12_19 (by repeat first | assumption | exact pj_up_s | refine (pj_up_n (by omega)).trans ?_) (by rfl) (by rfl) ?_
      refine pj_ild2 (q := 43) (pj_d p_X12_restore 25 rfl) rfl ?_
      refine pj_ald0 (q := 44) (pj_d p_X12_restore 26 rfl) rfl ?_
      refine pj_gf (q := 47) (k := 21) (pj_d p_X12_restore 27 rfl) rfl kX12_41 (by repeat first | assumption | exact pj_up_s | refine (pj_up_n (by omega)).trans ?_) (by rfl) (by rfl) ?_
      refine pj_bipush (q := 49) (v := nI 56) (pj_d p_X12_restore 28 rfl) rfl (by decide) ?_
      refine pj_ild1 (q := 50) (pj_d p_X12_restore 29 rfl) rfl ?_
      refine pj_imul (q := 51) (pj_d p_X12_restore 30 rfl) rfl ?_
      rw [pk_mul]
      refine pj_ild2 (q := 52) (pj_d p_X12_restore 31 rfl) rfl ?_
      refine pj_iadd (q := 53) (pj_d p_X12_restore 32 rfl) rfl ?_
      rw [nI_add]
      refine pj_ialdN (q := 54) (pj_d p_X12_restore 33 rfl) rfl (by repeat first | assumption | exact pj_up_s | refine (pj_up_n (by omega)).trans ?_) (by rfl) (by first | assumption | omega) (Nat.le_of_ble_eq_true rfl) ?_
      rw [x3 i hlt]
      refine pj_iast (q := 55) (pj_d p_X12_restore 34 rfl) rfl (by repeat first | assumption | exact pj_up_s | refine (pj_up_n (by omega)).trans ?_) (by rfl) (by first | assumption | omega) (Nat.le_of_ble_eq_true rfl) ?_
      rw [pj_up_up, gd_setI']
      refine pj_iinc2 (q := 58) (v := 1) (pj_d p_X12_restore 35 rfl) rfl (by first | rfl | assumption) (by decide) ?_
      refine pj_goto (t := 32) (pj_d p_X12_restore 36 rfl) (by decide) ?_
      rw [nI_1]
      have e : (fun z => nI (gd_set (fun z => if z < i then κ z else t.1 z) i (κ i) z)) = (fun z => nI (if z < i + 1 then κ z else t.1 z)) := by
        funext z
        congr 1
        rw [gd_set]
        by_cases e1 : z = i
        · rw [if_pos e1, if_pos (by omega), e1]
        · rw [if_neg e1]
          by_cases e2 : z < i
          · rw [if_pos e2, if_pos (by omega)]
          · rw [if_neg e2, if_neg (by omega)]
      rw [e]
      exact ih (i + 1) (by omega) (by omega)
  have := loop 57 0 (by omega) (by omega)
  rw [show (fun z => nI (if z < 0 then κ z else t.1 z)) = (fun z => nI (t.1 z)) from funext fun z => by rw [if_neg (Nat.not_lt_zero z)], pj_up_id hT] at this
  exact this
end
