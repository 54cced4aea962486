/-! ===== seen, of the class and of the model ===== -/
def gd_sp (τ : Nat → Nat) (w : Nat → Int32) (i st t : Nat) : Bool := decide (w (i + t) = nI (gd_lk τ t st))
def gd_sd (τ : Nat → Nat) (w : Nat → Int32) (i d : Nat) : Bool := gd_al (gd_sp τ w i (gd_setOf (τ (4 + d)))) (τ 1)
def gd_seen (τ : Nat → Nat) (w : Nat → Int32) (i m : Nat) : Nat := gd_sm (fun d => if gd_sd τ w i d = true then 2 ^ d else 0) m
def sp_seen (r i : Int32) (τ : Nat → Nat) (s : gd_S) : Int32 × Int32 := if τ 0 = 1 then (if gd_rng r 0 7 then (if gd_th s.2.1 r then (if gd_hp s.2.1 s.2.2.1 r i (nI (τ 1)) then (nI (gd_seen τ (s.2.2.2 r.toNatClampNeg) i.toNatClampNeg 7), nI 0) else (-1000012, nI 2)) else (-1000011, nI 1)) else (-1000001, s.1)) else (-1000002, s.1)
theorem gd_seen_lt (τ : Nat → Nat) (w : Nat → Int32) (i m : Nat) : gd_seen τ w i m < 2 ^ m := gd_sm_pw (fun d => gd_sd τ w i d = true) m
theorem gd_hp_1 {ln : Nat → Int32} {mn : Nat → Nat} {r i : Nat} (hr : r < 8) (hn : ¬ ln r = -1) (hi : i < mn r) (h40 : mn r ≤ 40) : gd_hp ln mn (nI r) (nI i) (nI 1) = true := by
  have e1 : (nI 1).toInt = 1 := by decide
  have t : gd_th ln (nI r) = true := by
    rw [gd_th, gd_rng_nI (by omega), nI_clamp (by omega), Bool.and_eq_true, decide_eq_true_eq]
    exact ⟨by omega, by simpa using hn⟩
  rw [gd_hp, t, nI_clamp (by omega), nI_toInt (by omega), e1, Bool.true_and, decide_eq_true_eq]
  omega
section
variable {E : pj_E} {B : Nat} {l : Launch} {h : pj_H} {n b k ac g : Nat} {ln : Nat → Int32} {mn : Nat → Nat} {it : Nat → Nat → Int32} {po : Option Nat} {lf st : Int32} {τ : Nat → Nat} {v : Nat → Int32} {s : gd_S}
theorem c_X3_weekdaysSeen (hF : gd_F h (b + 15)) (hT : gd_T h k τ ac) (hW : gd_W τ) (hk : b + 18 < k) (hR : gd_RX h b ln mn it) (hB : gd_RB ln mn) {r i : Nat} (hr : r < 8) (hn : ¬ ln r = -1) (hi : i + τ 1 ≤ mn r) : pj_Ct E B l Y_X3_weekdaysSeen 5 0 0 [.ref (b + 15), .ref k, .ref (b + 1), .int (nI r), .int (nI i)] h n (gd_sc (nI (gd_seen τ (it r) i 7)) h (b + 15) n) := by
  have h7 := hW.1
  have h40 := (hB r hr).2
  obtain ⟨f, hf⟩ := hF.2.1
  refine pj_in rfl (ls := [some (.ref (b + 15)), some (.ref k), some (.ref (b + 1)), some (.int (nI r)), some (.int (nI i)), none, none, none, none]) rfl (Nat.le_of_ble_eq_true rfl) ?_
  refine pj_iconst (q := 1) (v := nI 0) (pj_d p_X3_weekdaysSeen 0 rfl) rfl (by decide) ?_
  refine pj_ist5 (q := 3) (pj_d p_X3_weekdaysSeen 1 rfl) rfl (by first | rfl | assumption) ?_
  refine pj_iconst (q := 4) (v := nI 0) (pj_d p_X3_weekdaysSeen 2 rfl) rfl (by decide) ?_
  refine pj_ist6 (q := 6) (pj_d p_X3_weekdaysSeen 3 rfl) rfl (by first | rfl | assumption) ?_
  have loop : ∀ m d f o7 o8, pj_c1 o7 = true → pj_c1 o8 = true → 7 - d < m → d ≤ 7 → pj_V E B l Y_X3_weekdaysSeen 5 0 0 6 [some (.ref (b + 15)), some (.ref k), some (.ref (b + 1)), some (.int (nI r)), some (.int (nI i)), some (.int (nI (gd_seen τ (it r) i d))), some (.int (nI d)), o7, o8] [] (pj_up h (b + 16) (.inl (0, 7, .inl f))) n 0 0 (gd_sc (nI (gd_seen τ (it r) i 7)) h (b + 15) n) := by
    intro m
    induction m with
    | zero => intro d f o7 o8 _ _ hi; omega
    | succ m ih =>
      intro d f o7 o8 k7 k8 hd hle
      have hT1 : gd_T (pj_up h (b + 16) (.inl (0, 7, .inl f))) k τ ac := hT.up (by omega)
      have t0 := hT1.1
      have hF1 := hF.up (f := f)
      have F0 := hF1.1
      refine pj_ild6 (q := 8) (pj_d p_X3_weekdaysSeen 4 rfl) rfl ?_
      refine pj_bipush (q := 10) (v := nI 7) (pj_d p_X3_weekdaysSeen 5 rfl) rfl (by decide) ?_
      refine pj_icmp_ge (t := 97) (q := 13) (pj_d p_X3_weekdaysSeen 6 rfl) rfl (by decide) (fun c1 => ?_) (fun c1 => ?_)
      · have he : d = 7 := by have := gd_ge c1 (by omega) (by omega); omega
        subst he
        refine pj_ild5 (q := 99) (pj_d p_X3_weekdaysSeen 50 rfl) rfl ?_
        refine pj_iret rfl (pj_d p_X3_weekdaysSeen 51 rfl) (by decide) (by decide) ?_
        exact ⟨rfl, rfl, f, rfl⟩
      have hlt : d < 7 := gd_lt c1 (by omega)
      have hst : gd_setOf (τ (4 + d)) < 32 := gd_setOf_lt _ (hW.2.2.2.1 d hlt)
      have hlw := gd_seen_lt τ (it r) i d
      have hsd : gd_seen τ (it r) i (d + 1) = gd_seen τ (it r) i d + (if gd_sd τ (it r) i d = true then 2 ^ d else 0) := rfl
      have hsq : gd_sd τ (it r) i d = gd_al (gd_sp τ (it r) i (gd_setOf (τ (4 + d)))) (τ 1) := rfl
      refine pj_ald0 (q := 14) (pj_d p_X3_weekdaysSeen 7 rfl) rfl ?_
      refine pj_ald1 (q := 15) (pj_d p_X3_weekdaysSeen 8 rfl) rfl ?_
      refine pj_ald1 (q := 16) (pj_d p_X3_weekdaysSeen 9 rfl) rfl ?_
      refine pj_ild6 (q := 18) (pj_d p_X3_weekdaysSeen 10 rfl) rfl ?_
      refine pj_cp (pj_rV (q := 21) (c_X9_missingOn hT1 hW hlt) (pj_d p_X3_weekdaysSeen 11 rfl) rfl kX3_74 o_X9_missingOn (by assumption) (by rfl) (by rfl) (by rfl) (by rfl) (Nat.le_of_ble_eq_true rfl) (by decide)) (by decide) (by decide) ?_
      refine pj_cv (pj_rV (q := 24) (c_X3_lookAt hF1 hT1 hW (by omega) hst) (pj_d p_X3_weekdaysSeen 12 rfl) rfl kX3_40 o_X3_lookAt (by assumption) (by rfl) (by rfl) (by rfl) (by rfl) (Nat.le_of_ble_eq_true rfl) (by decide)) (by decide) (by decide) ?_
      rintro r1 h1 n1 ⟨rfl, rfl, f2, rfl, hf2⟩
      rw [pj_up_up]
      have hT2 : gd_T (pj_up h (b + 16) (.inl (0, 7, .inl f2))) k τ ac := hT.up (by omega)
      have t2 := hT2.1
      have F2 := (hF.up (f := f2)).1
      have F3 : (pj_up h (b + 16) (.inl (0, 7, .inl f2))) (b + 16) = some (.inl (0, 7, .inl f2)) := pj_up_s
      have hR2 : gd_RX (pj_up h (b + 16) (.inl (0, 7, .inl f2))) b ln mn it := hR.out (fun q _ _ => pj_up_n (by omega))
      have R2 := hR2.1
      generalize gd_setOf (τ (4 + d)) = sst at hst hf2 hsq
      generalize hp : gd_sp τ (it r) i sst = p at hsq
      generalize gd_sd τ (it r) i d = sd at hsd hsq
      have ih1 := ih (d + 1)
      generalize gd_seen τ (it r) i (d + 1) = nx at hsd ih1
      generalize gd_seen τ (it r) i d = cu at hlw hsd ⊢
      refine pj_iconst (q := 25) (v := nI 1) (pj_d p_X3_weekdaysSeen 13 rfl) rfl (by decide) ?_
      refine pj_ist7 (q := 27) (pj_d p_X3_weekdaysSeen 14 rfl) rfl (by first | rfl | assumption) ?_
      refine pj_iconst (q := 28) (v := nI 0) (pj_d p_X3_weekdaysSeen 15 rfl) rfl (by decide) ?_
      refine pj_ist8 (q := 30) (pj_d p_X3_weekdaysSeen 16 rfl) rfl (by first | rfl | assumption) ?_
      have inner : ∀ m2 j, τ 1 - j < m2 → j ≤ τ 1 → pj_V E B l Y_X3_weekdaysSeen 5 0 0 30 [some (.ref (b + 15)), some (.ref k), some (.ref (b + 1)), some (.int (nI r)), some (.int (nI i)), some (.int (nI cu)), some (.int (nI d)), some (.int (gd_b (gd_al p j))), some (.int (nI j))] [] (pj_up h (b + 16) (.inl (0, 7, .inl f2))) n1 0 0 (gd_sc (nI (gd_seen τ (it r) i 7)) h (b + 15) n1) := by
        intro m2
        induction m2 with
        | zero => intro j hj; omega
        | succ m2 ih2 =>
          intro j hj hjle
          refine pj_ild8 (q := 32) (pj_d p_X3_weekdaysSeen 17 rfl) rfl ?_
          refine pj_ald1 (q := 33) (pj_d p_X3_weekdaysSeen 18 rfl) rfl ?_
          refine pj_cp (pj_rV (q := 36) (c_X9_thingCount hT2) (pj_d p_X3_weekdaysSeen 19 rfl) rfl kX3_23 o_X9_thingCount (by assumption) (by rfl) (by rfl) (by rfl) (by rfl) (Nat.le_of_ble_eq_true rfl) (by decide)) (by decide) (by decide) ?_
          refine pj_icmp_ge (t := 77) (q := 39) (pj_d p_X3_weekdaysSeen 20 rfl) rfl (by decide) (fun c2 => ?_) (fun c2 => ?_)
          · have he : j = (τ 1) := by have := gd_ge c2 (by omega) (by omega); omega
            subst he
            have go : ∀ x, x = nx → pj_V E B l Y_X3_weekdaysSeen 5 0 0 91 [some (.ref (b + 15)), some (.ref k), some (.ref (b + 1)), some (.int (nI r)), some (.int (nI i)), some (.int (nI x)), some (.int (nI d)), some (.int (gd_b (gd_al p (τ 1)))), some (.int (nI (τ 1)))] [] (pj_up h (b + 16) (.inl (0, 7, .inl f2))) n1 0 0 (gd_sc (nI (gd_seen τ (it r) i 7)) h (b + 15) n1) := by
              intro x hx
              subst hx
              refine pj_iinc6 (q := 94) (v := 1) (pj_d p_X3_weekdaysSeen 48 rfl) rfl (by first | rfl | assumption) (by decide) ?_
              refine pj_goto (t := 6) (pj_d p_X3_weekdaysSeen 49 rfl) (by decide) ?_
              rw [nI_1]
              exact ih1 f2 _ _ rfl rfl (by omega) (by omega)
            refine pj_ild7 (q := 79) (pj_d p_X3_weekdaysSeen 40 rfl) rfl ?_
            refine pj_if_eq (t := 91) (q := 82) (pj_d p_X3_weekdaysSeen 41 rfl) rfl (by decide) (fun c3 => ?_) (fun c3 => ?_)
            · exact go _ (by rw [hsd, hsq, (gd_b_z _).mp c3]; simp)
            · refine pj_ild5 (q := 84) (pj_d p_X3_weekdaysSeen 42 rfl) rfl ?_
              refine pj_iconst (q := 85) (v := nI 1) (pj_d p_X3_weekdaysSeen 43 rfl) rfl (by decide) ?_
              refine pj_ild6 (q := 87) (pj_d p_X3_weekdaysSeen 44 rfl) rfl ?_
              refine pj_ishl (q := 88) (pj_d p_X3_weekdaysSeen 45 rfl) rfl ?_
              rw [gd_shl1 d (by omega)]
              refine pj_ior (q := 89) (pj_d p_X3_weekdaysSeen 46 rfl) rfl ?_
              rw [gd_or2 d (by omega) _ hlw]
              refine pj_ist5 (q := 91) (pj_d p_X3_weekdaysSeen 47 rfl) rfl (by first | rfl | assumption) ?_
              exact go _ (by rw [hsd, hsq, (gd_b_n _).mp c3]; simp)
          have hjt : j < τ 1 := gd_lt c2 (by omega)
          have fin : ∀ z : Bool, z = gd_al p (j + 1) → pj_V E B l Y_X3_weekdaysSeen 5 0 0 69 [some (.ref (b + 15)), some (.ref k), some (.ref (b + 1)), some (.int (nI r)), some (.int (nI i)), some (.int (nI cu)), some (.int (nI d)), some (.int (gd_b (gd_al p j))), some (.int (nI j))] [.int (gd_b z)] (pj_up h (b + 16) (.inl (0, 7, .inl f2))) n1 0 0 (gd_sc (nI (gd_seen τ (it r) i 7)) h (b + 15) n1) := by
            intro z hz
            subst hz
            refine pj_ist7 (q := 71) (pj_d p_X3_weekdaysSeen 37 rfl) rfl (by first | rfl | assumption) ?_
            refine pj_iinc8 (q := 74) (v := 1) (pj_d p_X3_weekdaysSeen 38 rfl) rfl (by first | rfl | assumption) (by decide) ?_
            refine pj_goto (t := 30) (pj_d p_X3_weekdaysSeen 39 rfl) (by decide) ?_
            rw [nI_1]
            exact ih2 (j + 1) (by omega) (by omega)
          refine pj_ild7 (q := 41) (pj_d p_X3_weekdaysSeen 21 rfl) rfl ?_
          refine pj_if_eq (t := 68) (q := 44) (pj_d p_X3_weekdaysSeen 22 rfl) rfl (by decide) (fun c3 => ?_) (fun c3 => ?_)
          · refine pj_iconst (q := 69) (v := nI 0) (pj_d p_X3_weekdaysSeen 36 rfl) rfl (by decide) ?_
            exact fin false (by rw [gd_al, (gd_b_z _).mp c3]; rfl)
          refine pj_ald2 (q := 45) (pj_d p_X3_weekdaysSeen 23 rfl) rfl ?_
          refine pj_ild3 (q := 46) (pj_d p_X3_weekdaysSeen 24 rfl) rfl ?_
          refine pj_ild4 (q := 48) (pj_d p_X3_weekdaysSeen 25 rfl) rfl ?_
          refine pj_ild8 (q := 50) (pj_d p_X3_weekdaysSeen 26 rfl) rfl ?_
          refine pj_iadd (q := 51) (pj_d p_X3_weekdaysSeen 27 rfl) rfl ?_
          rw [nI_add]
          refine pj_cp (pj_rV (q := 54) (c_X5_itemAt (r := r) (i := i + j) hR2 hB (gd_hp_1 (i := i + j) hr hn (by omega) h40) hr (by omega)) (pj_d p_X3_weekdaysSeen 28 rfl) rfl kX3_95 o_X5_itemAt (by assumption) (by rfl) (by rfl) (by rfl) (by rfl) (Nat.le_of_ble_eq_true rfl) (by decide)) (by decide) (by decide) ?_
          refine pj_ald0 (q := 55) (pj_d p_X3_weekdaysSeen 29 rfl) rfl ?_
          refine pj_gf (q := 58) (k := 0) (pj_d p_X3_weekdaysSeen 30 rfl) rfl kX3_11 (by assumption) (by rfl) (by rfl) ?_
          refine pj_ild8 (q := 60) (pj_d p_X3_weekdaysSeen 31 rfl) rfl ?_
          refine pj_ialdN (q := 61) (pj_d p_X3_weekdaysSeen 32 rfl) rfl (by assumption) (by rfl) (by first | assumption | omega) (Nat.le_of_ble_eq_true rfl) ?_
          rw [hf2 j hjt]
          have hpj : p j = decide (it r (i + j) = nI (gd_lk τ j sst)) := by rw [← hp]; rfl
          refine pj_icmp_ne (t := 68) (q := 64) (pj_d p_X3_weekdaysSeen 33 rfl) rfl (by decide) (fun c4 => ?_) (fun c4 => ?_)
          · refine pj_iconst (q := 69) (v := nI 0) (pj_d p_X3_weekdaysSeen 36 rfl) rfl (by decide) ?_
            exact fin false (by rw [gd_al, hpj, decide_eq_false c4]; simp)
          · refine pj_iconst (q := 65) (v := nI 1) (pj_d p_X3_weekdaysSeen 34 rfl) rfl (by decide) ?_
            refine pj_goto (t := 69) (pj_d p_X3_weekdaysSeen 35 rfl) (by decide) ?_
            exact fin true (by rw [gd_al, hpj, decide_eq_true c4, (gd_b_n _).mp c3]; rfl)
      exact inner (τ 1 + 1) 0 (by omega) (by omega)
  have := loop 8 0 f none none rfl rfl (by omega) (by omega)
  rw [pj_up_id hf] at this
  exact this
theorem c_X11_seen (hX : gd_XR h b po lf s.1 τ ac) (hR : gd_RX h b s.2.1 s.2.2.1 s.2.2.2) (hB : gd_RB s.2.1 s.2.2.1) (r i : Int32) : pj_Ct E B l Y_X11_seen 6 0 0 [.ref b, .int r, .int i] h n (fun r' h' n' => r' = some (.int (sp_seen r i τ s).1) ∧ n' = n ∧ h' b = some (.inr (10, gd_XO b po lf (sp_seen r i τ s).2)) ∧ gd_F h' (b + 15) ∧ ∀ q, q ≠ b → q ≠ b + 16 → h' q = h q) := by
  obtain ⟨hx, hF, hW, hp⟩ := hX
  have h7 := hW.1
  have hx : h b = some (.inr (10, gd_XO b po lf s.1)) := hx
  refine pj_in rfl (ls := [some (.ref b), some (.int (r)), some (.int (i))]) rfl (Nat.le_of_ble_eq_true rfl) ?_
  cases po with
  | none =>
    obtain ⟨p0, p1⟩ := hp
    have hx' : h b = some (.inr (10, [.ref (b + 1), .ref (b + 13), .ref (b + 15), .ref (b + 19), .ref (b + 21), .null, .int lf, .int s.1])) := hx
    refine pj_ald0 (q := 1) (pj_d p_X11_seen 0 rfl) rfl ?_
    refine pj_gf (q := 4) (k := 5) (pj_d p_X11_seen 1 rfl) rfl kX11_102 hx' (by rfl) (by rfl) ?_
    refine pj_ifnonnullN (q := 7) (pj_d p_X11_seen 2 rfl) rfl ?_
    refine pj_ldc (q := 9) (pj_d p_X11_seen 3 rfl) rfl kX11_112 ?_
    refine pj_iret rfl (pj_d p_X11_seen 4 rfl) (by decide) (by decide) ?_
    rw [show sp_seen r i τ s = (-1000002, s.1) by rw [sp_seen, if_neg (by omega)]]
    exact ⟨rfl, rfl, hx, hF, fun _ _ _ => rfl⟩
  | some k =>
    obtain ⟨hk, p0, hT⟩ := hp
    have hx' : h b = some (.inr (10, [.ref (b + 1), .ref (b + 13), .ref (b + 15), .ref (b + 19), .ref (b + 21), .ref k, .int lf, .int s.1])) := hx
    have t0 := hT.1
    refine pj_ald0 (q := 1) (pj_d p_X11_seen 0 rfl) rfl ?_
    refine pj_gf (q := 4) (k := 5) (pj_d p_X11_seen 1 rfl) rfl kX11_102 hx' (by rfl) (by rfl) ?_
    refine pj_ifnonnull (t := 10) (pj_d p_X11_seen 2 rfl) (by decide) ?_
    refine pj_ild1 (q := 11) (pj_d p_X11_seen 5 rfl) rfl ?_
    refine pj_cp (pj_rS (q := 14) (c_X5_isNumber r) (pj_d p_X11_seen 6 rfl) rfl kX11_43 o_X5_isNumber (by rfl) (by rfl) (Nat.le_of_ble_eq_true rfl) (by decide)) (by decide) (by decide) ?_
    refine pj_if_ne (t := 20) (q := 17) (pj_d p_X11_seen 7 rfl) rfl (by decide) (fun c1 => ?_) (fun c1 => ?_)
    rotate_left
    · refine pj_ldc (q := 19) (pj_d p_X11_seen 8 rfl) rfl kX11_47 ?_
      refine pj_iret rfl (pj_d p_X11_seen 9 rfl) (by decide) (by decide) ?_
      rw [show sp_seen r i τ s = (-1000001, s.1) by rw [sp_seen, if_pos p0, (gd_b_z _).mp c1]; rfl]
      exact ⟨rfl, rfl, hx, hF, fun _ _ _ => rfl⟩
    have e1 := (gd_b_n _).mp c1
    refine pj_ald0 (q := 21) (pj_d p_X11_seen 10 rfl) rfl ?_
    refine pj_ald0 (q := 22) (pj_d p_X11_seen 11 rfl) rfl ?_
    refine pj_ild1 (q := 23) (pj_d p_X11_seen 12 rfl) rfl ?_
    refine pj_ild2 (q := 24) (pj_d p_X11_seen 13 rfl) rfl ?_
    refine pj_ald0 (q := 25) (pj_d p_X11_seen 14 rfl) rfl ?_
    refine pj_gf (q := 28) (k := 5) (pj_d p_X11_seen 15 rfl) rfl kX11_102 hx' (by rfl) (by rfl) ?_
    refine pj_cp (pj_rV (q := 31) (c_X9_thingCount hT) (pj_d p_X11_seen 16 rfl) rfl kX11_106 o_X9_thingCount (by assumption) (by rfl) (by rfl) (by rfl) (by rfl) (Nat.le_of_ble_eq_true rfl) (by decide)) (by decide) (by decide) ?_
    refine pj_cp (pj_rV (q := 34) (c_X11_findingOfPlaces hx hR hB r i (nI (τ 1))) (pj_d p_X11_seen 17 rfl) rfl kX11_59 o_X11_findingOfPlaces (by assumption) (by rfl) (by rfl) (by rfl) (by rfl) (Nat.le_of_ble_eq_true rfl) (by decide)) (by decide) (by decide) ?_
    by_cases ht : gd_th s.2.1 r = true
    · by_cases hp : gd_hp s.2.1 s.2.2.1 r i (nI (τ 1)) = true
      · rw [show gd_fp s.2.1 s.2.2.1 r i (nI (τ 1)) = 0 by rw [gd_fp, if_pos ht, if_pos hp]]
        obtain ⟨r', i', m', hr, rfl, hrc, rfl, hic, hm1, hm2, hle, h40, hne⟩ := gd_hp_of hB hp
        rw [nI_clamp (by omega)] at hm2
        refine pj_cv (pj_rV (q := 37) (c_X11_finds hx (j := 0) (by omega)) (pj_d p_X11_seen 18 rfl) rfl kX11_48 o_X11_finds (by assumption) (by rfl) (by rfl) (by rfl) (by rfl) (Nat.le_of_ble_eq_true rfl) (by decide)) (by decide) (by decide) ?_
        rintro r1 h1 n1 ⟨rfl, rfl, rfl⟩
        have hx1 : (pj_up h b (.inr (10, gd_XO b (some k) lf (nI 0)))) b = some (.inr (10, gd_XO b (some k) lf (nI 0))) := pj_up_s
        have hR1 : gd_RX (pj_up h b (.inr (10, gd_XO b (some k) lf (nI 0)))) b s.2.1 s.2.2.1 s.2.2.2 := hR.out (fun q h1 h2 => pj_up_n (by omega))
        have hF1 : gd_F (pj_up h b (.inr (10, gd_XO b (some k) lf (nI 0)))) (b + 15) := by
          obtain ⟨a1, ⟨f2, a2⟩, ⟨f3, a3⟩, ⟨f4, a4⟩⟩ := hF
          exact ⟨by rw [pj_up_n (by omega)]; exact a1, ⟨f2, by rw [pj_up_n (by omega)]; exact a2⟩, ⟨f3, by rw [pj_up_n (by omega)]; exact a3⟩, ⟨f4, by rw [pj_up_n (by omega)]; exact a4⟩⟩
        have hT1 : gd_T (pj_up h b (.inr (10, gd_XO b (some k) lf (nI 0)))) k τ ac := hT.up (by omega)
        have F1 := hF1.1
        refine pj_if_eq (t := 45) (q := 40) (x := gd_b false) (pj_d p_X11_seen 19 rfl) rfl (by decide) (fun _ => ?_) (fun z => absurd rfl z)
        refine pj_ald0 (q := 46) (pj_d p_X11_seen 23 rfl) rfl ?_
        refine pj_gf (q := 49) (k := 2) (pj_d p_X11_seen 24 rfl) rfl kX11_26 (by assumption) (by rfl) (by rfl) ?_
        refine pj_ald0 (q := 50) (pj_d p_X11_seen 25 rfl) rfl ?_
        refine pj_gf (q := 53) (k := 5) (pj_d p_X11_seen 26 rfl) rfl kX11_102 (by assumption) (by rfl) (by rfl) ?_
        refine pj_ald0 (q := 54) (pj_d p_X11_seen 27 rfl) rfl ?_
        refine pj_gf (q := 57) (k := 0) (pj_d p_X11_seen 28 rfl) rfl kX11_10 (by assumption) (by rfl) (by rfl) ?_
        refine pj_ild1 (q := 58) (pj_d p_X11_seen 29 rfl) rfl ?_
        refine pj_ild2 (q := 59) (pj_d p_X11_seen 30 rfl) rfl ?_
        refine pj_cv (pj_rV (q := 62) (c_X3_weekdaysSeen (r := r') (i := i') hF1 hT1 hW (by omega) hR1 hB hr hne (by omega)) (pj_d p_X11_seen 31 rfl) rfl kX11_217 o_X3_weekdaysSeen (by assumption) (by rfl) (by rfl) (by rfl) (by rfl) (Nat.le_of_ble_eq_true rfl) (by decide)) (by decide) (by decide) ?_
        rintro r2 h2 n2 ⟨rfl, rfl, f2, rfl⟩
        refine pj_iret rfl (pj_d p_X11_seen 32 rfl) (by decide) (by decide) ?_
        rw [show sp_seen (nI r') (nI i') τ s = (nI (gd_seen τ (s.2.2.2 r') i' 7), nI 0) by rw [sp_seen, if_pos p0, if_pos e1, if_pos ht, if_pos hp, hrc, hic]]
        exact ⟨rfl, rfl, by rw [pj_up_n (by omega)]; exact hx1, hF1.up, fun q q1 q2 => by rw [pj_up_n q2, pj_up_n q1]⟩
      · rw [show gd_fp s.2.1 s.2.2.1 r i (nI (τ 1)) = 2 by rw [gd_fp, if_pos ht, if_neg hp]]
        refine pj_cv (pj_rV (q := 37) (c_X11_finds hx (j := 2) (by omega)) (pj_d p_X11_seen 18 rfl) rfl kX11_48 o_X11_finds (by assumption) (by rfl) (by rfl) (by rfl) (by rfl) (Nat.le_of_ble_eq_true rfl) (by decide)) (by decide) (by decide) ?_
        rintro r1 h1 n1 ⟨rfl, rfl, rfl⟩
        have hx1 : (pj_up h b (.inr (10, gd_XO b (some k) lf (nI 2)))) b = some (.inr (10, gd_XO b (some k) lf (nI 2))) := pj_up_s
        refine pj_if_eq (t := 45) (q := 40) (x := gd_b true) (pj_d p_X11_seen 19 rfl) rfl (by decide) (fun z => absurd z (by decide)) (fun _ => ?_)
        refine pj_ald0 (q := 41) (pj_d p_X11_seen 20 rfl) rfl ?_
        refine pj_cp (pj_rV (q := 44) (c_X11_finding hx1) (pj_d p_X11_seen 21 rfl) rfl kX11_51 o_X11_finding (by assumption) (by rfl) (by rfl) (by rfl) (by rfl) (Nat.le_of_ble_eq_true rfl) (by decide)) (by decide) (by decide) ?_
        refine pj_iret rfl (pj_d p_X11_seen 22 rfl) (by decide) (by decide) ?_
        rw [show sp_seen r i τ s = (-1000012, nI 2) by rw [sp_seen, if_pos p0, if_pos e1, if_pos ht, if_neg hp]]
        exact ⟨rfl, rfl, hx1, by
          obtain ⟨a1, ⟨f2, a2⟩, ⟨f3, a3⟩, ⟨f4, a4⟩⟩ := hF
          exact ⟨by rw [pj_up_n (by omega)]; exact a1, ⟨f2, by rw [pj_up_n (by omega)]; exact a2⟩, ⟨f3, by rw [pj_up_n (by omega)]; exact a3⟩, ⟨f4, by rw [pj_up_n (by omega)]; exact a4⟩⟩, fun q q1 _ => pj_up_n q1⟩
    · rw [show gd_fp s.2.1 s.2.2.1 r i (nI (τ 1)) = 1 by rw [gd_fp, if_neg ht]]
      refine pj_cv (pj_rV (q := 37) (c_X11_finds hx (j := 1) (by omega)) (pj_d p_X11_seen 18 rfl) rfl kX11_48 o_X11_finds (by assumption) (by rfl) (by rfl) (by rfl) (by rfl) (Nat.le_of_ble_eq_true rfl) (by decide)) (by decide) (by decide) ?_
      rintro r1 h1 n1 ⟨rfl, rfl, rfl⟩
      have hx1 : (pj_up h b (.inr (10, gd_XO b (some k) lf (nI 1)))) b = some (.inr (10, gd_XO b (some k) lf (nI 1))) := pj_up_s
      refine pj_if_eq (t := 45) (q := 40) (x := gd_b true) (pj_d p_X11_seen 19 rfl) rfl (by decide) (fun z => absurd z (by decide)) (fun _ => ?_)
      refine pj_ald0 (q := 41) (pj_d p_X11_seen 20 rfl) rfl ?_
      refine pj_cp (pj_rV (q := 44) (c_X11_finding hx1) (pj_d p_X11_seen 21 rfl) rfl kX11_51 o_X11_finding (by assumption) (by rfl) (by rfl) (by rfl) (by rfl) (Nat.le_of_ble_eq_true rfl) (by decide)) (by decide) (by decide) ?_
      refine pj_iret rfl (pj_d p_X11_seen 22 rfl) (by decide) (by decide) ?_
      rw [show sp_seen r i τ s = (-1000011, nI 1) by rw [sp_seen, if_pos p0, if_pos e1, if_neg ht]]
      exact ⟨rfl, rfl, hx1, by
        obtain ⟨a1, ⟨f2, a2⟩, ⟨f3, a3⟩, ⟨f4, a4⟩⟩ := hF
        exact ⟨by rw [pj_up_n (by omega)]; exact a1, ⟨f2, by rw [pj_up_n (by omega)]; exact a2⟩, ⟨f3, by rw [pj_up_n (by omega)]; exact a3⟩, ⟨f4, by rw [pj_up_n (by omega)]; exact a4⟩⟩, fun q q1 _ => pj_up_n q1⟩
theorem c_X12_seen (hR : gd_MR h g v τ) (hs : v 1 = s.1) (hr : gd_RM h g s.2.1 s.2.2.1 s.2.2.2) (hB : gd_RB s.2.1 s.2.2.1) (r i : Int32) : pj_Ct E B l Y_X12_seen 3 0 0 [.ref g, .int r, .int i] h n (fun r' h' n' => r' = some (.int (sp_seen r i τ s).1) ∧ n' = n ∧ h' = pj_up h g (.inr (11, gd_Mo g (upd v 1 (sp_seen r i τ s).2)))) := by
  obtain ⟨hM, hT, hv, hW, h1⟩ := hR
  have h7 := hW.1
  refine pj_in rfl (ls := [some (.ref g), some (.int (r)), some (.int (i)), none, none, none, none]) rfl (Nat.le_of_ble_eq_true rfl) ?_
  refine gd_thr (pj_d p_X12_seen 0 rfl) (pj_d p_X12_seen 1 rfl) (pj_d p_X12_seen 2 rfl) rfl hM hv ?_
  have same : pj_up h g (.inr (11, gd_Mo g (upd v 1 s.1))) = h := by rw [gd_upd_id hs, pj_up_id hM]
  refine pj_ald0 (q := 6) (pj_d p_X12_seen 3 rfl) rfl ?_
  refine pj_cp (pj_rV (q := 9) (c_X12_isThere hM hT h1) (pj_d p_X12_seen 4 rfl) rfl kX12_176 o_X12_isThere (by assumption) (by rfl) (by rfl) (by rfl) (by rfl) (Nat.le_of_ble_eq_true rfl) (by decide)) (by decide) (by decide) ?_
  refine pj_if_ne (t := 15) (q := 12) (pj_d p_X12_seen 5 rfl) rfl (by decide) (fun c1 => ?_) (fun c1 => ?_)
  rotate_left
  · have ht := gd_dec_f c1
    refine pj_ldc (q := 14) (pj_d p_X12_seen 6 rfl) rfl kX12_179 ?_
    refine pj_iret rfl (pj_d p_X12_seen 7 rfl) (by decide) (by decide) ?_
    rw [show sp_seen r i τ s = (-1000002, s.1) by rw [sp_seen, if_neg ht]]
    exact ⟨rfl, rfl, same.symm⟩
  have p0 := gd_dec_t c1
  refine pj_ild1 (q := 16) (pj_d p_X12_seen 8 rfl) rfl ?_
  refine pj_cp (pj_rS (q := 19) (c_X12_isRow r) (pj_d p_X12_seen 9 rfl) rfl kX12_61 o_X12_isRow (by rfl) (by rfl) (Nat.le_of_ble_eq_true rfl) (by decide)) (by decide) (by decide) ?_
  refine pj_if_ne (t := 25) (q := 22) (pj_d p_X12_seen 10 rfl) rfl (by decide) (fun c2 => ?_) (fun c2 => ?_)
  rotate_left
  · refine pj_ldc (q := 24) (pj_d p_X12_seen 11 rfl) rfl kX12_67 ?_
    refine pj_iret rfl (pj_d p_X12_seen 12 rfl) (by decide) (by decide) ?_
    rw [show sp_seen r i τ s = (-1000001, s.1) by rw [sp_seen, if_pos p0, (gd_b_z _).mp c2]; rfl]
    exact ⟨rfl, rfl, same.symm⟩
  have e1 := (gd_b_n _).mp c2
  obtain ⟨r', hr', rfl, hrc⟩ := gd_rng_of (hi := 7) e1
  have hr8 : r' < 8 := by omega
  have h40 := (hB r' hr8).2
  obtain ⟨⟨f1, R1, g1⟩, ⟨f2, R2, g2⟩, ⟨f3, R3, g3⟩⟩ := hr
  refine pj_ald0 (q := 26) (pj_d p_X12_seen 13 rfl) rfl ?_
  refine pj_gf (q := 29) (k := 2) (pj_d p_X12_seen 14 rfl) rfl kX12_7 (by assumption) (by rfl) (by rfl) ?_
  refine pj_ild1 (q := 30) (pj_d p_X12_seen 15 rfl) rfl ?_
  refine pj_ialdN (q := 31) (pj_d p_X12_seen 16 rfl) rfl (by assumption) (by rfl) (by first | assumption | omega) (Nat.le_of_ble_eq_true rfl) ?_
  rw [g1 r' hr8]
  refine pj_if_ge (t := 40) (q := 34) (pj_d p_X12_seen 17 rfl) rfl (by decide) (fun c3 => ?_) (fun c3 => ?_)
  rotate_left
  · have ht : ¬ gd_th s.2.1 (nI r') = true := fun z => c3 ((gd_th_iff hB hr8).mpr z)
    refine pj_ald0 (q := 35) (pj_d p_X12_seen 18 rfl) rfl ?_
    refine pj_iconst (q := 36) (v := nI 1) (pj_d p_X12_seen 19 rfl) rfl (by decide) ?_
    refine pj_cv (pj_rV (q := 39) (c_X12_finding hM (nI 1)) (pj_d p_X12_seen 20 rfl) rfl kX12_68 o_X12_finding (by assumption) (by rfl) (by rfl) (by rfl) (by rfl) (Nat.le_of_ble_eq_true rfl) (by decide)) (by decide) (by decide) ?_
    rintro r1 h2 n1 ⟨rfl, rfl, rfl⟩
    refine pj_iret rfl (pj_d p_X12_seen 21 rfl) (by decide) (by decide) ?_
    rw [show sp_seen (nI r') i τ s = (-1000011, nI 1) by rw [sp_seen, if_pos p0, if_pos e1, if_neg ht]]
    exact ⟨rfl, rfl, rfl⟩
  have ht := (gd_th_iff hB hr8).mp c3
  have hlt : (nI (τ 1)).toInt = (τ 1 : Int) := nI_toInt (by omega)
  have hpe : gd_hp s.2.1 s.2.2.1 (nI r') i (nI (τ 1)) = decide (0 ≤ i.toInt ∧ i.toInt + (τ 1 : Int) ≤ (s.2.2.1 r' : Int)) := by
    rw [gd_hp, ht, hrc, Bool.true_and, decide_eq_decide, hlt]
    omega
  have bad : ¬ (0 ≤ i.toInt ∧ i.toInt + (τ 1 : Int) ≤ (s.2.2.1 r' : Int)) → pj_V E B l Y_X12_seen 3 0 0 65 [some (.ref g), some (.int (nI r')), some (.int (i)), none, none, none, none] [] h n 0 0 (fun r'' h' n' => r'' = some (.int (sp_seen (nI r') i τ s).1) ∧ n' = n ∧ h' = pj_up h g (.inr (11, gd_Mo g (upd v 1 (sp_seen (nI r') i τ s).2)))) := by
    intro hn
    refine pj_ald0 (q := 66) (pj_d p_X12_seen 39 rfl) rfl ?_
    refine pj_iconst (q := 67) (v := nI 2) (pj_d p_X12_seen 40 rfl) rfl (by decide) ?_
    refine pj_cv (pj_rV (q := 70) (c_X12_finding hM (nI 2)) (pj_d p_X12_seen 41 rfl) rfl kX12_68 o_X12_finding (by assumption) (by rfl) (by rfl) (by rfl) (by rfl) (Nat.le_of_ble_eq_true rfl) (by decide)) (by decide) (by decide) ?_
    rintro r1 h2 n1 ⟨rfl, rfl, rfl⟩
    refine pj_iret rfl (pj_d p_X12_seen 42 rfl) (by decide) (by decide) ?_
    rw [show sp_seen (nI r') i τ s = (-1000012, nI 2) by rw [sp_seen, if_pos p0, if_pos e1, if_pos ht, hpe, if_neg (by rw [decide_eq_true_eq]; exact hn)]]
    exact ⟨rfl, rfl, rfl⟩
  refine pj_ild2 (q := 41) (pj_d p_X12_seen 22 rfl) rfl ?_
  refine pj_if_lt (t := 65) (q := 44) (pj_d p_X12_seen 23 rfl) rfl (by decide) (fun c4 => ?_) (fun c4 => ?_)
  · rw [Int32.lt_iff_toInt_lt] at c4
    exact bad (fun z => by have z0 : (0 : Int32).toInt = 0 := rfl; omega)
  have c4' : 0 ≤ i.toInt := by
    rw [Int32.lt_iff_toInt_lt] at c4
    have z0 : (0 : Int32).toInt = 0 := rfl
    omega
  refine pj_ild2 (q := 45) (pj_d p_X12_seen 24 rfl) rfl ?_
  refine pj_i2l (q := 46) (pj_d p_X12_seen 25 rfl) rfl ?_
  refine pj_ald0 (q := 47) (pj_d p_X12_seen 26 rfl) rfl ?_
  refine pj_gf (q := 50) (k := 5) (pj_d p_X12_seen 27 rfl) rfl kX12_19 (by assumption) (by rfl) (by rfl) ?_
  refine pj_iconst (q := 51) (v := nI 1) (pj_d p_X12_seen 28 rfl) rfl (by decide) ?_
  refine pj_ialdN (q := 52) (pj_d p_X12_seen 29 rfl) rfl (by assumption) (by rfl) (by first | assumption | omega) (Nat.le_of_ble_eq_true rfl) ?_
  refine pj_i2l (q := 53) (pj_d p_X12_seen 30 rfl) rfl ?_
  refine pj_ladd (q := 54) (pj_d p_X12_seen 31 rfl) rfl ?_
  refine pj_ald0 (q := 55) (pj_d p_X12_seen 32 rfl) rfl ?_
  refine pj_gf (q := 58) (k := 3) (pj_d p_X12_seen 33 rfl) rfl kX12_13 (by assumption) (by rfl) (by rfl) ?_
  refine pj_ild1 (q := 59) (pj_d p_X12_seen 34 rfl) rfl ?_
  refine pj_ialdN (q := 60) (pj_d p_X12_seen 35 rfl) rfl (by assumption) (by rfl) (by first | assumption | omega) (Nat.le_of_ble_eq_true rfl) ?_
  rw [g2 r' hr8]
  refine pj_i2l (q := 61) (pj_d p_X12_seen 36 rfl) rfl ?_
  refine pj_lcmp (q := 62) (pj_d p_X12_seen 37 rfl) rfl ?_
  have hmn : (nI (s.2.2.1 r')).toInt64.toInt = (s.2.2.1 r' : Int) := by rw [Int32.toInt_toInt64, nI_toInt (by omega)]
  refine pj_if_le (t := 71) (q := 65) (pj_d p_X12_seen 38 rfl) rfl (by decide) (fun c5 => ?_) (fun c5 => ?_)
  rotate_left
  · rw [lg_cmp_le, Int64.le_iff_toInt_le, gd_ladd, hlt, hmn] at c5
    exact bad (fun z => c5 z.2)
  rw [lg_cmp_le, Int64.le_iff_toInt_le, gd_ladd, hlt, hmn] at c5
  have hp : gd_hp s.2.1 s.2.2.1 (nI r') i (nI (τ 1)) = true := by rw [hpe, decide_eq_true_eq]; exact ⟨c4', c5⟩
  obtain ⟨r2, i', m', hr2, hrr, hrc2, rfl, hic, hm1, hm2, hle, h40', hne⟩ := gd_hp_of hB hp
  rw [nI_clamp (by omega)] at hm2
  rw [hrc] at hrc2
  subst hrc2
  clear bad
  refine pj_ald0 (q := 72) (pj_d p_X12_seen 43 rfl) rfl ?_
  refine pj_iconst (q := 73) (v := nI 0) (pj_d p_X12_seen 44 rfl) rfl (by decide) ?_
  refine pj_pf (q := 76) (k := 1) (fs' := gd_Mo g (upd v 1 (nI 0))) (pj_d p_X12_seen 45 rfl) rfl kX12_51 hM rfl (Or.inl rfl) rfl rfl rfl (by show 1 < 24; decide) rfl ?_
  have hsp : sp_seen (nI r') (nI i') τ s = (nI (gd_seen τ (s.2.2.2 r') i' 7), nI 0) := by rw [sp_seen, if_pos p0, if_pos e1, if_pos ht, if_pos hp, hrc, hic]
  rw [hsp]
  generalize hh1 : pj_up h g (.inr (11, gd_Mo g (upd v 1 (nI 0)))) = h1
  have q1 : ∀ q, q ≠ g → h1 q = h q := fun q e => by rw [← hh1, pj_up_n e]
  have hM1 : h1 g = some (.inr (11, gd_Mo g (upd v 1 (nI 0)))) := by rw [← hh1, pj_up_s]
  have T1 : h1 (g + 4) = some (.inl (0, 56, .inl (fun j => nI (τ j)))) := by rw [q1 _ (by omega)]; exact hT
  have S3 : h1 (g + 3) = some (.inl (0, 320, .inl f3)) := by rw [q1 _ (by omega)]; exact R3
  refine pj_iconst (q := 77) (v := nI 0) (pj_d p_X12_seen 46 rfl) rfl (by decide) ?_
  refine pj_ist3 (q := 78) (pj_d p_X12_seen 47 rfl) rfl (by first | rfl | assumption) ?_
  refine pj_iconst (q := 79) (v := nI 0) (pj_d p_X12_seen 48 rfl) rfl (by decide) ?_
  refine pj_ist4 (q := 81) (pj_d p_X12_seen 49 rfl) rfl (by first | rfl | assumption) ?_
  have loop : ∀ m d o5 o6, pj_c1 o5 = true → pj_c1 o6 = true → 7 - d < m → d ≤ 7 → pj_V E B l Y_X12_seen 3 0 0 81 [some (.ref g), some (.int (nI r')), some (.int (nI i')), some (.int (nI (gd_seen τ (s.2.2.2 r') i' d))), some (.int (nI d)), o5, o6] [] h1 n 0 0 (fun r'' h' n' => r'' = some (.int (nI (gd_seen τ (s.2.2.2 r') i' 7))) ∧ n' = n ∧ h' = h1) := by
    intro m
    induction m with
    | zero => intro d o5 o6 _ _ hi; omega
    | succ m ih =>
      intro d o5 o6 k5 k6 hd hdle
      refine pj_ild4 (q := 83) (pj_d p_X12_seen 50 rfl) rfl ?_
      refine pj_bipush (q := 85) (v := nI 7) (pj_d p_X12_seen 51 rfl) rfl (by decide) ?_
      refine pj_icmp_ge (t := 180) (q := 88) (pj_d p_X12_seen 52 rfl) rfl (by decide) (fun c6 => ?_) (fun c6 => ?_)
      · have he : d = 7 := by have := gd_ge c6 (by omega) (by omega); omega
        subst he
        refine pj_ild3 (q := 181) (pj_d p_X12_seen 104 rfl) rfl ?_
        refine pj_iret rfl (pj_d p_X12_seen 105 rfl) (by decide) (by decide) ?_
        exact ⟨rfl, rfl, rfl⟩
      have hlt7 : d < 7 := gd_lt c6 (by omega)
      have hst : gd_setOf (τ (4 + d)) < 32 := gd_setOf_lt _ (hW.2.2.2.1 d hlt7)
      have hlw := gd_seen_lt τ (s.2.2.2 r') i' d
      have hsd : gd_seen τ (s.2.2.2 r') i' (d + 1) = gd_seen τ (s.2.2.2 r') i' d + (if gd_sd τ (s.2.2.2 r') i' d = true then 2 ^ d else 0) := rfl
      have hsq : gd_sd τ (s.2.2.2 r') i' d = gd_al (gd_sp τ (s.2.2.2 r') i' (gd_setOf (τ (4 + d)))) (τ 1) := rfl
      generalize hp : gd_sp τ (s.2.2.2 r') i' (gd_setOf (τ (4 + d))) = p at hsq
      generalize gd_sd τ (s.2.2.2 r') i' d = sd at hsd hsq
      have ih1 := ih (d + 1)
      generalize gd_seen τ (s.2.2.2 r') i' (d + 1) = nx at hsd ih1
      generalize gd_seen τ (s.2.2.2 r') i' d = cu at hlw hsd ⊢
      refine pj_iconst (q := 89) (v := nI 1) (pj_d p_X12_seen 53 rfl) rfl (by decide) ?_
      refine pj_ist5 (q := 91) (pj_d p_X12_seen 54 rfl) rfl (by first | rfl | assumption) ?_
      refine pj_iconst (q := 92) (v := nI 0) (pj_d p_X12_seen 55 rfl) rfl (by decide) ?_
      refine pj_ist6 (q := 94) (pj_d p_X12_seen 56 rfl) rfl (by first | rfl | assumption) ?_
      have inner : ∀ m2 j, τ 1 - j < m2 → j ≤ τ 1 → pj_V E B l Y_X12_seen 3 0 0 94 [some (.ref g), some (.int (nI r')), some (.int (nI i')), some (.int (nI cu)), some (.int (nI d)), some (.int (gd_b (gd_al p j))), some (.int (nI j))] [] h1 n 0 0 (fun r'' h' n' => r'' = some (.int (nI (gd_seen τ (s.2.2.2 r') i' 7))) ∧ n' = n ∧ h' = h1) := by
        intro m2
        induction m2 with
        | zero => intro j hj; omega
        | succ m2 ih2 =>
          intro j hj hjle
          refine pj_ild6 (q := 96) (pj_d p_X12_seen 57 rfl) rfl ?_
          refine pj_ald0 (q := 97) (pj_d p_X12_seen 58 rfl) rfl ?_
          refine pj_gf (q := 100) (k := 5) (pj_d p_X12_seen 59 rfl) rfl kX12_19 (by assumption) (by rfl) (by rfl) ?_
          refine pj_iconst (q := 101) (v := nI 1) (pj_d p_X12_seen 60 rfl) rfl (by decide) ?_
          refine pj_ialdN (q := 102) (pj_d p_X12_seen 61 rfl) rfl (by assumption) (by rfl) (by first | assumption | omega) (Nat.le_of_ble_eq_true rfl) ?_
          refine pj_icmp_ge (t := 158) (q := 105) (pj_d p_X12_seen 62 rfl) rfl (by decide) (fun c7 => ?_) (fun c7 => ?_)
          · have he : j = (τ 1) := by have := gd_ge c7 (by omega) (by omega); omega
            subst he
            have go : ∀ x, nI cu ||| nI x = nI nx → pj_V E B l Y_X12_seen 3 0 0 172 [some (.ref g), some (.int (nI r')), some (.int (nI i')), some (.int (nI cu)), some (.int (nI d)), some (.int (gd_b (gd_al p (τ 1)))), some (.int (nI (τ 1)))] [.int (nI x), .int (nI cu)] h1 n 0 0 (fun r'' h' n' => r'' = some (.int (nI (gd_seen τ (s.2.2.2 r') i' 7))) ∧ n' = n ∧ h' = h1) := by
              intro x hx
              refine pj_ior (q := 173) (pj_d p_X12_seen 100 rfl) rfl ?_
              rw [hx]
              refine pj_ist3 (q := 174) (pj_d p_X12_seen 101 rfl) rfl (by first | rfl | assumption) ?_
              refine pj_iinc4 (q := 177) (v := 1) (pj_d p_X12_seen 102 rfl) rfl (by first | rfl | assumption) (by decide) ?_
              refine pj_goto (t := 81) (pj_d p_X12_seen 103 rfl) (by decide) ?_
              rw [nI_1]
              exact ih1 _ _ rfl rfl (by omega) (by omega)
            refine pj_ild3 (q := 159) (pj_d p_X12_seen 92 rfl) rfl ?_
            refine pj_ild5 (q := 161) (pj_d p_X12_seen 93 rfl) rfl ?_
            refine pj_if_eq (t := 171) (q := 164) (pj_d p_X12_seen 94 rfl) rfl (by decide) (fun c8 => ?_) (fun c8 => ?_)
            · refine pj_iconst (q := 172) (v := nI 0) (pj_d p_X12_seen 99 rfl) rfl (by decide) ?_
              exact go 0 (by rw [gd_or0, hsd, hsq, (gd_b_z _).mp c8]; simp)
            · refine pj_iconst (q := 165) (v := nI 1) (pj_d p_X12_seen 95 rfl) rfl (by decide) ?_
              refine pj_ild4 (q := 167) (pj_d p_X12_seen 96 rfl) rfl ?_
              refine pj_ishl (q := 168) (pj_d p_X12_seen 97 rfl) rfl ?_
              rw [gd_shl1 d (by omega)]
              refine pj_goto (t := 172) (pj_d p_X12_seen 98 rfl) (by decide) ?_
              exact go _ (by rw [gd_or2 d (by omega) _ hlw, hsd, hsq, (gd_b_n _).mp c8]; simp)
          have hjt : j < τ 1 := gd_lt c7 (by omega)
          have fin : ∀ z : Bool, z = gd_al p (j + 1) → pj_V E B l Y_X12_seen 3 0 0 150 [some (.ref g), some (.int (nI r')), some (.int (nI i')), some (.int (nI cu)), some (.int (nI d)), some (.int (gd_b (gd_al p j))), some (.int (nI j))] [.int (gd_b z)] h1 n 0 0 (fun r'' h' n' => r'' = some (.int (nI (gd_seen τ (s.2.2.2 r') i' 7))) ∧ n' = n ∧ h' = h1) := by
            intro z hz
            subst hz
            refine pj_ist5 (q := 152) (pj_d p_X12_seen 89 rfl) rfl (by first | rfl | assumption) ?_
            refine pj_iinc6 (q := 155) (v := 1) (pj_d p_X12_seen 90 rfl) rfl (by first | rfl | assumption) (by decide) ?_
            refine pj_goto (t := 94) (pj_d p_X12_seen 91 rfl) (by decide) ?_
            rw [nI_1]
            exact ih2 (j + 1) (by omega) (by omega)
          refine pj_ild5 (q := 107) (pj_d p_X12_seen 63 rfl) rfl ?_
          refine pj_if_eq (t := 149) (q := 110) (pj_d p_X12_seen 64 rfl) rfl (by decide) (fun c8 => ?_) (fun c8 => ?_)
          · refine pj_iconst (q := 150) (v := nI 0) (pj_d p_X12_seen 88 rfl) rfl (by decide) ?_
            exact fin false (by rw [gd_al, (gd_b_z _).mp c8]; rfl)
          refine pj_ald0 (q := 111) (pj_d p_X12_seen 65 rfl) rfl ?_
          refine pj_ild6 (q := 113) (pj_d p_X12_seen 66 rfl) rfl ?_
          refine pj_ald0 (q := 114) (pj_d p_X12_seen 67 rfl) rfl ?_
          refine pj_gf (q := 117) (k := 5) (pj_d p_X12_seen 68 rfl) rfl kX12_19 (by assumption) (by rfl) (by rfl) ?_
          refine pj_iconst (q := 118) (v := nI 4) (pj_d p_X12_seen 69 rfl) rfl (by decide) ?_
          refine pj_ild4 (q := 120) (pj_d p_X12_seen 70 rfl) rfl ?_
          refine pj_iadd (q := 121) (pj_d p_X12_seen 71 rfl) rfl ?_
          rw [nI_add]
          refine pj_ialdN (q := 122) (pj_d p_X12_seen 72 rfl) rfl (by assumption) (by rfl) (by first | assumption | omega) (Nat.le_of_ble_eq_true rfl) ?_
          refine pj_cp (pj_rS (q := 125) (c_X12_setOf _ (hW.2.2.2.1 d hlt7)) (pj_d p_X12_seen 73 rfl) rfl kX12_164 o_X12_setOf (by rfl) (by rfl) (Nat.le_of_ble_eq_true rfl) (by decide)) (by decide) (by decide) ?_
          refine pj_cp (pj_rV (q := 128) (c_X12_lookOf hM1 T1 hW hjt hst) (pj_d p_X12_seen 74 rfl) rfl kX12_167 o_X12_lookOf (by assumption) (by rfl) (by rfl) (by rfl) (by rfl) (Nat.le_of_ble_eq_true rfl) (by decide)) (by decide) (by decide) ?_
          refine pj_ald0 (q := 129) (pj_d p_X12_seen 75 rfl) rfl ?_
          refine pj_gf (q := 132) (k := 4) (pj_d p_X12_seen 76 rfl) rfl kX12_16 (by assumption) (by rfl) (by rfl) ?_
          refine pj_bipush (q := 134) (v := nI 40) (pj_d p_X12_seen 77 rfl) rfl (by decide) ?_
          refine pj_ild1 (q := 135) (pj_d p_X12_seen 78 rfl) rfl ?_
          refine pj_imul (q := 136) (pj_d p_X12_seen 79 rfl) rfl ?_
          refine pj_ild2 (q := 137) (pj_d p_X12_seen 80 rfl) rfl ?_
          refine pj_iadd (q := 138) (pj_d p_X12_seen 81 rfl) rfl ?_
          refine pj_ild6 (q := 140) (pj_d p_X12_seen 82 rfl) rfl ?_
          refine pj_iadd (q := 141) (pj_d p_X12_seen 83 rfl) rfl ?_
          rw [pk_mul, nI_add, nI_add]
          have hix : 40 * r' + i' + j < 320 := by omega
          refine pj_ialdN (q := 142) (pj_d p_X12_seen 84 rfl) rfl (by assumption) (by rfl) (by first | assumption | omega) (Nat.le_of_ble_eq_true rfl) ?_
          rw [show 40 * r' + i' + j = 40 * r' + (i' + j) by omega, g3 r' (i' + j) hr8 (by omega)]
          have hpj : p j = decide (s.2.2.2 r' (i' + j) = nI (gd_lk τ j (gd_setOf (τ (4 + d))))) := by rw [← hp]; rfl
          refine pj_icmp_ne (t := 149) (q := 145) (pj_d p_X12_seen 85 rfl) rfl (by decide) (fun c9 => ?_) (fun c9 => ?_)
          · refine pj_iconst (q := 150) (v := nI 0) (pj_d p_X12_seen 88 rfl) rfl (by decide) ?_
            exact fin false (by rw [gd_al, hpj, decide_eq_false (fun z => c9 z.symm)]; simp)
          · refine pj_iconst (q := 146) (v := nI 1) (pj_d p_X12_seen 86 rfl) rfl (by decide) ?_
            refine pj_goto (t := 150) (pj_d p_X12_seen 87 rfl) (by decide) ?_
            exact fin true (by rw [gd_al, hpj, decide_eq_true c9.symm, (gd_b_n _).mp c8]; rfl)
      exact inner (τ 1 + 1) 0 (by omega) (by omega)
  exact loop 8 0 none none rfl rfl (by omega) (by omega)
end
