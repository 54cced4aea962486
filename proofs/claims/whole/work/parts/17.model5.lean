/-! ===== the model: week, merged, year ===== -/
def gd_clear (τ : Nat → Nat) : Nat := gd_sm (fun d => if gd_harm τ (gd_miss τ d) = 0 then 2 ^ d else 0) 7
def gd_wf (τ : Nat → Nat) : Nat → Nat
  | 0 => 0
  | d + 1 => if gd_harm τ (gd_miss τ (gd_wf τ d)) < gd_harm τ (gd_miss τ d) then d else gd_wf τ d
def sp_week (τ : Nat → Nat) (w : Int32) : Int32 := if τ 0 = 1 then (if gd_rng w 0 1 then (if w.toInt = 0 then nI (gd_clear τ) else nI (gd_wf τ 7)) else -1000001) else -1000002
theorem gd_wf_le (τ : Nat → Nat) : ∀ d, gd_wf τ d ≤ d
  | 0 => Nat.le_refl 0
  | d + 1 => by
    have := gd_wf_le τ d
    rw [gd_wf]
    split <;> omega
theorem gd_sm_pw (p : Nat → Prop) [DecidablePred p] : ∀ m, gd_sm (fun k => if p k then 2 ^ k else 0) m < 2 ^ m
  | 0 => Nat.one_pos
  | m + 1 => by
    have := gd_sm_pw p m
    rw [gd_sm, Nat.pow_succ]
    split <;> omega
theorem gd_harm_le {τ : Nat → Nat} (hW : gd_W τ) (st : Nat) : gd_harm τ st ≤ 160 := by
  have h1 := hW.2.1
  have h2 : gd_harm τ st ≤ τ 2 * 20 := gd_sm_le (fun j hj => by
    have := (hW.2.2.2.2.2.1 j hj).2.2.2.2
    unfold gd_hf
    split <;> omega)
  omega
def gd_on (o : Option Nat) : Int32 := match o with
  | none => -1000000
  | some s => nI s
def gd_mg (τ : Nat → Nat) (a b : Nat) : Nat → Option Nat
  | 0 => none
  | i + 1 => if gd_lk τ a i = gd_lk τ b i ∧ (∀ s, gd_mg τ a b i = some s → gd_bits i < gd_bits s) then some i else gd_mg τ a b i
def sp_merged (τ : Nat → Nat) (a b : Int32) : Int32 := if sp_two τ a b then gd_on (gd_mg τ a.toNatClampNeg b.toNatClampNeg 32) else -1000001
theorem gd_mg_lt (τ : Nat → Nat) (a b : Nat) : ∀ i s, gd_mg τ a b i = some s → s < i
  | 0, s, h => by cases h
  | i + 1, s, h => by
    rw [gd_mg] at h
    split at h
    · cases h; omega
    · have := gd_mg_lt τ a b i s h; omega
theorem gd_neg {a : Nat} (ha : a < 2 ^ 31) : ¬ nI a = -1000000 := by
  intro h
  have := congrArg Int32.toInt h
  rw [nI_toInt ha] at this
  have e : (-1000000 : Int32).toInt = -1000000 := by decide
  omega
theorem gd_bits_le (x : Nat) : gd_bits x ≤ 7 := by
  have := gd_sm_le (f := fun k => x / 2 ^ k % 2) (c := 1) (i := 7) (fun j _ => by omega)
  unfold gd_bits; omega
def gd_X (s : Nat) : Nat → Nat
  | 0 => s
  | i + 1 => gd_X s i * 16807 % 2147483647
def gd_yh (τ : Nat → Nat) (s i : Nat) : Nat := gd_harm τ (gd_setOf (gd_X s (i + 1) % 6))
def sp_year (τ : Nat → Nat) (m s w : Int32) : Int32 := if τ 0 = 1 then (if gd_rng m 0 200 && gd_rng s 1 999999 && gd_rng w 0 1 then (if w.toInt = 0 then nI (gd_sm (gd_yh τ s.toNatClampNeg) m.toNatClampNeg) else nI (gd_sm (fun i => if gd_yh τ s.toNatClampNeg i = 0 then 1 else 0) m.toNatClampNeg)) else -1000001) else -1000002
theorem gd_X_lt {s : Nat} (hs : s ≤ 999999) : ∀ i, gd_X s i < 2147483647
  | 0 => by rw [gd_X]; omega
  | i + 1 => by rw [gd_X]; exact Nat.mod_lt _ (by omega)
section
variable {E : pj_E} {B : Nat} {l : Launch} {h : pj_H} {n g : Nat} {τ : Nat → Nat} {v : Nat → Int32}
theorem c_X12_week (hR : gd_MR h g v τ) (w : Int32) : pj_Ct E B l Y_X12_week 4 0 0 [.ref g, .int w] h n (pj_is (some (.int (sp_week τ w))) h n) := by
  obtain ⟨hM, hT, hv, hW, h1⟩ := hR
  refine pj_in rfl (ls := [some (.ref g), some (.int (w)), none, none, none]) rfl (Nat.le_of_ble_eq_true rfl) ?_
  refine gd_thr (pj_d p_X12_week 0 rfl) (pj_d p_X12_week 1 rfl) (pj_d p_X12_week 2 rfl) rfl hM hv ?_
  refine pj_ald0 (q := 6) (pj_d p_X12_week 3 rfl) rfl ?_
  refine pj_cp (pj_rV (q := 9) (c_X12_isThere hM hT h1) (pj_d p_X12_week 4 rfl) rfl kX12_176 o_X12_isThere (by assumption) (by rfl) (by rfl) (by rfl) (by rfl) (Nat.le_of_ble_eq_true rfl) (by decide)) (by decide) (by decide) ?_
  refine pj_if_ne (t := 15) (q := 12) (pj_d p_X12_week 5 rfl) rfl (by decide) (fun c1 => ?_) (fun c1 => ?_)
  · have ht := gd_dec_t c1
    refine pj_ild1 (q := 16) (pj_d p_X12_week 8 rfl) rfl ?_
    refine pj_i2l (q := 17) (pj_d p_X12_week 9 rfl) rfl ?_
    refine pj_lconst (q := 18) (v := lN 0) (pj_d p_X12_week 10 rfl) rfl (by decide) ?_
    refine pj_lconst (q := 19) (v := lN 1) (pj_d p_X12_week 11 rfl) rfl (by decide) ?_
    refine pj_cp (pj_rS (q := 22) (c_X12_in w (lN 0) (lN 1) 0 1 (by decide) (by decide)) (pj_d p_X12_week 12 rfl) rfl kX12_57 o_X12_in (by rfl) (by rfl) (Nat.le_of_ble_eq_true rfl) (by decide)) (by decide) (by decide) ?_
    refine pj_if_ne (t := 28) (q := 25) (pj_d p_X12_week 13 rfl) rfl (by decide) (fun c2 => ?_) (fun c2 => ?_)
    · have e := (gd_b_n _).mp c2
      obtain ⟨j, hj, rfl, hc⟩ := gd_rng_of (hi := 1) e
      have hji : (nI j).toInt = (j : Int) := nI_toInt (by omega)
      refine pj_iconst (q := 29) (v := nI 0) (pj_d p_X12_week 16 rfl) rfl (by decide) ?_
      refine pj_ist2 (q := 30) (pj_d p_X12_week 17 rfl) rfl (by first | rfl | assumption) ?_
      refine pj_iconst (q := 31) (v := nI 0) (pj_d p_X12_week 18 rfl) rfl (by decide) ?_
      refine pj_ist3 (q := 32) (pj_d p_X12_week 19 rfl) rfl (by first | rfl | assumption) ?_
      refine pj_iconst (q := 33) (v := nI 0) (pj_d p_X12_week 20 rfl) rfl (by decide) ?_
      refine pj_ist4 (q := 35) (pj_d p_X12_week 21 rfl) rfl (by first | rfl | assumption) ?_
      generalize hf : (fun d => if gd_harm τ (gd_miss τ d) = 0 then 2 ^ d else 0) = f
      have hg : gd_clear τ = gd_sm f 7 := by rw [← hf]; rfl
      have hlt2 : ∀ m, gd_sm f m < 2 ^ m := by rw [← hf]; exact gd_sm_pw (fun d => gd_harm τ (gd_miss τ d) = 0)
      have loop : ∀ m i, 7 - i < m → i ≤ 7 → pj_V E B l Y_X12_week 4 0 0 35 [some (.ref g), some (.int (nI j)), some (.int (nI (gd_sm f i))), some (.int (nI (gd_wf τ i))), some (.int (nI i))] [] h n 0 0 (pj_is (some (.int (sp_week τ (nI j)))) h n) := by
        intro m
        induction m with
        | zero => intro i hi; omega
        | succ m ih =>
          intro i hi hle
          refine pj_ild4 (q := 37) (pj_d p_X12_week 22 rfl) rfl ?_
          refine pj_bipush (q := 39) (v := nI 7) (pj_d p_X12_week 23 rfl) rfl (by decide) ?_
          refine pj_icmp_ge (t := 101) (q := 42) (pj_d p_X12_week 24 rfl) rfl (by decide) (fun c3 => ?_) (fun c3 => ?_)
          · have he : i = 7 := by have := gd_ge c3 (by omega) (by omega); omega
            subst he
            refine pj_ild1 (q := 102) (pj_d p_X12_week 56 rfl) rfl ?_
            refine pj_if_ne (t := 109) (q := 105) (pj_d p_X12_week 57 rfl) rfl (by decide) (fun c4 => ?_) (fun c4 => ?_)
            · have hj0 : ¬ j = 0 := fun q => c4 (by rw [q]; rfl)
              refine pj_ild3 (q := 110) (pj_d p_X12_week 60 rfl) rfl ?_
              refine pj_iret rfl (pj_d p_X12_week 61 rfl) (by decide) (by decide) ?_
              exact ⟨by simp [sp_week, ht, e, hji, hj0], rfl, rfl⟩
            · have hj0 : j = 0 := (nI_eq (by omega) (by omega)).mp (c4.trans nI_0.symm)
              subst hj0
              refine pj_ild2 (q := 106) (pj_d p_X12_week 58 rfl) rfl ?_
              refine pj_goto (t := 110) (pj_d p_X12_week 59 rfl) (by decide) ?_
              refine pj_iret rfl (pj_d p_X12_week 61 rfl) (by decide) (by decide) ?_
              exact ⟨by simp [sp_week, ht, e, hji, hg], rfl, rfl⟩
          · have hlt : i < 7 := gd_lt c3 (by omega)
            have hwl := gd_wf_le τ i
            have b1 := gd_harm_le hW (gd_miss τ i)
            have b2 := gd_harm_le hW (gd_miss τ (gd_wf τ i))
            refine pj_ild2 (q := 43) (pj_d p_X12_week 25 rfl) rfl ?_
            refine pj_ald0 (q := 44) (pj_d p_X12_week 26 rfl) rfl ?_
            refine pj_ald0 (q := 45) (pj_d p_X12_week 27 rfl) rfl ?_
            refine pj_ild4 (q := 47) (pj_d p_X12_week 28 rfl) rfl ?_
            refine pj_cp (pj_rV (q := 50) (c_X12_missingOn hM hT hW (d := i) (by omega)) (pj_d p_X12_week 29 rfl) rfl kX12_170 o_X12_missingOn (by assumption) (by rfl) (by rfl) (by rfl) (by rfl) (Nat.le_of_ble_eq_true rfl) (by decide)) (by decide) (by decide) ?_
            refine pj_cp (pj_rV (q := 53) (c_X12_harmBy hM hT hW (gd_miss_lt hW i)) (pj_d p_X12_week 30 rfl) rfl kX12_173 o_X12_harmBy (by assumption) (by rfl) (by rfl) (by rfl) (by rfl) (Nat.le_of_ble_eq_true rfl) (by decide)) (by decide) (by decide) ?_
            have fin : ∀ x, x = gd_wf τ (i + 1) → pj_V E B l Y_X12_week 4 0 0 94 [some (.ref g), some (.int (nI j)), some (.int (nI (gd_sm f (i + 1)))), some (.int (nI (gd_wf τ i))), some (.int (nI i))] [.int (nI x)] h n 0 0 (pj_is (some (.int (sp_week τ (nI j)))) h n) := by
              intro x hx
              subst hx
              refine pj_ist3 (q := 95) (pj_d p_X12_week 53 rfl) rfl (by first | rfl | assumption) ?_
              refine pj_iinc4 (q := 98) (v := 1) (pj_d p_X12_week 54 rfl) rfl (by first | rfl | assumption) (by decide) ?_
              refine pj_goto (t := 35) (pj_d p_X12_week 55 rfl) (by decide) ?_
              rw [nI_1]
              exact ih (i + 1) (by omega) (by omega)
            have go : ∀ x, nI (gd_sm f i) ||| nI x = nI (gd_sm f (i + 1)) → pj_V E B l Y_X12_week 4 0 0 64 [some (.ref g), some (.int (nI j)), some (.int (nI (gd_sm f i))), some (.int (nI (gd_wf τ i))), some (.int (nI i))] [.int (nI x), .int (nI (gd_sm f i))] h n 0 0 (pj_is (some (.int (sp_week τ (nI j)))) h n) := by
              intro x hx
              refine pj_ior (q := 65) (pj_d p_X12_week 37 rfl) rfl ?_
              rw [hx]
              refine pj_ist2 (q := 66) (pj_d p_X12_week 38 rfl) rfl (by first | rfl | assumption) ?_
              refine pj_ald0 (q := 67) (pj_d p_X12_week 39 rfl) rfl ?_
              refine pj_ald0 (q := 68) (pj_d p_X12_week 40 rfl) rfl ?_
              refine pj_ild4 (q := 70) (pj_d p_X12_week 41 rfl) rfl ?_
              refine pj_cp (pj_rV (q := 73) (c_X12_missingOn hM hT hW (d := i) (by omega)) (pj_d p_X12_week 42 rfl) rfl kX12_170 o_X12_missingOn (by assumption) (by rfl) (by rfl) (by rfl) (by rfl) (Nat.le_of_ble_eq_true rfl) (by decide)) (by decide) (by decide) ?_
              refine pj_cp (pj_rV (q := 76) (c_X12_harmBy hM hT hW (gd_miss_lt hW i)) (pj_d p_X12_week 43 rfl) rfl kX12_173 o_X12_harmBy (by assumption) (by rfl) (by rfl) (by rfl) (by rfl) (Nat.le_of_ble_eq_true rfl) (by decide)) (by decide) (by decide) ?_
              refine pj_ald0 (q := 77) (pj_d p_X12_week 44 rfl) rfl ?_
              refine pj_ald0 (q := 78) (pj_d p_X12_week 45 rfl) rfl ?_
              refine pj_ild3 (q := 79) (pj_d p_X12_week 46 rfl) rfl ?_
              refine pj_cp (pj_rV (q := 82) (c_X12_missingOn hM hT hW (d := gd_wf τ i) (by omega)) (pj_d p_X12_week 47 rfl) rfl kX12_170 o_X12_missingOn (by assumption) (by rfl) (by rfl) (by rfl) (by rfl) (Nat.le_of_ble_eq_true rfl) (by decide)) (by decide) (by decide) ?_
              refine pj_cp (pj_rV (q := 85) (c_X12_harmBy hM hT hW (gd_miss_lt hW _)) (pj_d p_X12_week 48 rfl) rfl kX12_173 o_X12_harmBy (by assumption) (by rfl) (by rfl) (by rfl) (by rfl) (Nat.le_of_ble_eq_true rfl) (by decide)) (by decide) (by decide) ?_
              refine pj_icmp_le (t := 93) (q := 88) (pj_d p_X12_week 49 rfl) rfl (by decide) (fun c5 => ?_) (fun c5 => ?_)
              · have hle := (nI_leI (by omega) (by omega)).mp c5
                refine pj_ild3 (q := 94) (pj_d p_X12_week 52 rfl) rfl ?_
                exact fin _ (by rw [gd_wf, if_neg (by omega)])
              · have hgt : gd_harm τ (gd_miss τ (gd_wf τ i)) < gd_harm τ (gd_miss τ i) := gd_lt c5 (by omega)
                refine pj_ild4 (q := 90) (pj_d p_X12_week 50 rfl) rfl ?_
                refine pj_goto (t := 94) (pj_d p_X12_week 51 rfl) (by decide) ?_
                exact fin _ (by rw [gd_wf, if_pos hgt])
            refine pj_if_ne (t := 63) (q := 56) (pj_d p_X12_week 31 rfl) rfl (by decide) (fun c4 => ?_) (fun c4 => ?_)
            · have hne : ¬ gd_harm τ (gd_miss τ i) = 0 := fun q => c4 (by rw [q]; rfl)
              refine pj_iconst (q := 64) (v := nI 0) (pj_d p_X12_week 36 rfl) rfl (by decide) ?_
              exact go 0 (by rw [gd_or0, gd_sm, ← hf]; simp only [if_neg hne]; rfl)
            · have heq := (nI_eq (by omega) (by omega)).mp (c4.trans nI_0.symm)
              refine pj_iconst (q := 57) (v := nI 1) (pj_d p_X12_week 32 rfl) rfl (by decide) ?_
              refine pj_ild4 (q := 59) (pj_d p_X12_week 33 rfl) rfl ?_
              refine pj_ishl (q := 60) (pj_d p_X12_week 34 rfl) rfl ?_
              rw [gd_shl1 i (by omega)]
              refine pj_goto (t := 64) (pj_d p_X12_week 35 rfl) (by decide) ?_
              exact go _ (by rw [gd_or2 i (by omega) _ (hlt2 i), gd_sm, ← hf]; simp only [if_pos heq])
      exact loop 8 0 (by omega) (by omega)
    · have e := (gd_b_z _).mp c2
      refine pj_ldc (q := 27) (pj_d p_X12_week 14 rfl) rfl kX12_67 ?_
      refine pj_iret rfl (pj_d p_X12_week 15 rfl) (by decide) (by decide) ?_
      exact ⟨by simp [sp_week, ht, e], rfl, rfl⟩
  · have ht := gd_dec_f c1
    refine pj_ldc (q := 14) (pj_d p_X12_week 6 rfl) rfl kX12_179 ?_
    refine pj_iret rfl (pj_d p_X12_week 7 rfl) (by decide) (by decide) ?_
    exact ⟨by simp [sp_week, ht], rfl, rfl⟩
theorem c_X12_merged (hR : gd_MR h g v τ) (a b : Int32) : pj_Ct E B l Y_X12_merged 4 0 0 [.ref g, .int a, .int b] h n (pj_is (some (.int (sp_merged τ a b))) h n) := by
  obtain ⟨hM, hT, hv, hW, h1⟩ := hR
  refine pj_in rfl (ls := [some (.ref g), some (.int (a)), some (.int (b)), none, none]) rfl (Nat.le_of_ble_eq_true rfl) ?_
  refine gd_thr (pj_d p_X12_merged 0 rfl) (pj_d p_X12_merged 1 rfl) (pj_d p_X12_merged 2 rfl) rfl hM hv ?_
  refine pj_ald0 (q := 6) (pj_d p_X12_merged 3 rfl) rfl ?_
  refine pj_ild1 (q := 7) (pj_d p_X12_merged 4 rfl) rfl ?_
  refine pj_ild2 (q := 8) (pj_d p_X12_merged 5 rfl) rfl ?_
  refine pj_cp (pj_rV (q := 11) (c_X12_areTwo hM hT hW.1 a b) (pj_d p_X12_merged 6 rfl) rfl kX12_191 o_X12_areTwo (by assumption) (by rfl) (by rfl) (by rfl) (by rfl) (Nat.le_of_ble_eq_true rfl) (by decide)) (by decide) (by decide) ?_
  refine pj_if_ne (t := 17) (q := 14) (pj_d p_X12_merged 7 rfl) rfl (by decide) (fun c1 => ?_) (fun c1 => ?_)
  · have e1 := (gd_b_n _).mp c1
    have e3 : sp_two τ a b = true := e1
    rw [Bool.and_eq_true, Bool.and_eq_true] at e1
    obtain ⟨i, hi, rfl, hc⟩ := gd_has_of hW.1 e1.1.1
    obtain ⟨j, hj, rfl, hd⟩ := gd_has_of hW.1 e1.1.2
    have hsp : sp_merged τ (nI i) (nI j) = gd_on (gd_mg τ i j 32) := by rw [sp_merged, e3, hc, hd]; rfl
    rw [hsp]
    refine pj_ldc (q := 19) (pj_d p_X12_merged 10 rfl) rfl kX12_90 ?_
    refine pj_ist3 (q := 20) (pj_d p_X12_merged 11 rfl) rfl (by first | rfl | assumption) ?_
    refine pj_iconst (q := 21) (v := nI 0) (pj_d p_X12_merged 12 rfl) rfl (by decide) ?_
    refine pj_ist4 (q := 23) (pj_d p_X12_merged 13 rfl) rfl (by first | rfl | assumption) ?_
    have loop : ∀ m p, 32 - p < m → p ≤ 32 → pj_V E B l Y_X12_merged 4 0 0 23 [some (.ref g), some (.int (nI i)), some (.int (nI j)), some (.int (gd_on (gd_mg τ i j p))), some (.int (nI p))] [] h n 0 0 (pj_is (some (.int (gd_on (gd_mg τ i j 32)))) h n) := by
      intro m
      induction m with
      | zero => intro p hp; omega
      | succ m ih =>
        intro p hp hle
        refine pj_ild4 (q := 25) (pj_d p_X12_merged 14 rfl) rfl ?_
        refine pj_bipush (q := 27) (v := nI 32) (pj_d p_X12_merged 15 rfl) rfl (by decide) ?_
        refine pj_icmp_ge (t := 78) (q := 30) (pj_d p_X12_merged 16 rfl) rfl (by decide) (fun c2 => ?_) (fun c2 => ?_)
        · have he : p = 32 := by have := gd_ge c2 (by omega) (by omega); omega
          subst he
          refine pj_ild3 (q := 79) (pj_d p_X12_merged 40 rfl) rfl ?_
          refine pj_iret rfl (pj_d p_X12_merged 41 rfl) (by decide) (by decide) ?_
          exact ⟨rfl, rfl, rfl⟩
        · have hlt : p < 32 := gd_lt c2 (by omega)
          have la := gd_lk_lt hW hi hlt
          have lb := gd_lk_lt hW hj hlt
          refine pj_ald0 (q := 31) (pj_d p_X12_merged 17 rfl) rfl ?_
          refine pj_ild1 (q := 32) (pj_d p_X12_merged 18 rfl) rfl ?_
          refine pj_ild4 (q := 34) (pj_d p_X12_merged 19 rfl) rfl ?_
          refine pj_cp (pj_rV (q := 37) (c_X12_lookOf hM hT hW hi hlt) (pj_d p_X12_merged 20 rfl) rfl kX12_167 o_X12_lookOf (by assumption) (by rfl) (by rfl) (by rfl) (by rfl) (Nat.le_of_ble_eq_true rfl) (by decide)) (by decide) (by decide) ?_
          refine pj_ald0 (q := 38) (pj_d p_X12_merged 21 rfl) rfl ?_
          refine pj_ild2 (q := 39) (pj_d p_X12_merged 22 rfl) rfl ?_
          refine pj_ild4 (q := 41) (pj_d p_X12_merged 23 rfl) rfl ?_
          refine pj_cp (pj_rV (q := 44) (c_X12_lookOf hM hT hW hj hlt) (pj_d p_X12_merged 24 rfl) rfl kX12_167 o_X12_lookOf (by assumption) (by rfl) (by rfl) (by rfl) (by rfl) (Nat.le_of_ble_eq_true rfl) (by decide)) (by decide) (by decide) ?_
          have fin : ∀ x, x = gd_on (gd_mg τ i j (p + 1)) → pj_V E B l Y_X12_merged 4 0 0 71 [some (.ref g), some (.int (nI i)), some (.int (nI j)), some (.int (gd_on (gd_mg τ i j p))), some (.int (nI p))] [.int x] h n 0 0 (pj_is (some (.int (gd_on (gd_mg τ i j 32)))) h n) := by
            intro x hx
            subst hx
            refine pj_ist3 (q := 72) (pj_d p_X12_merged 37 rfl) rfl (by first | rfl | assumption) ?_
            refine pj_iinc4 (q := 75) (v := 1) (pj_d p_X12_merged 38 rfl) rfl (by first | rfl | assumption) (by decide) ?_
            refine pj_goto (t := 23) (pj_d p_X12_merged 39 rfl) (by decide) ?_
            rw [nI_1]
            exact ih (p + 1) (by omega) (by omega)
          have no : ¬ (gd_lk τ i p = gd_lk τ j p ∧ (∀ s, gd_mg τ i j p = some s → gd_bits p < gd_bits s)) → pj_V E B l Y_X12_merged 4 0 0 70 [some (.ref g), some (.int (nI i)), some (.int (nI j)), some (.int (gd_on (gd_mg τ i j p))), some (.int (nI p))] [] h n 0 0 (pj_is (some (.int (gd_on (gd_mg τ i j 32)))) h n) := by
            intro hno
            refine pj_ild3 (q := 71) (pj_d p_X12_merged 36 rfl) rfl ?_
            exact fin _ (by rw [gd_mg, if_neg hno])
          have yes : (gd_lk τ i p = gd_lk τ j p ∧ (∀ s, gd_mg τ i j p = some s → gd_bits p < gd_bits s)) → pj_V E B l Y_X12_merged 4 0 0 65 [some (.ref g), some (.int (nI i)), some (.int (nI j)), some (.int (gd_on (gd_mg τ i j p))), some (.int (nI p))] [] h n 0 0 (pj_is (some (.int (gd_on (gd_mg τ i j 32)))) h n) := by
            intro hy
            refine pj_ild4 (q := 67) (pj_d p_X12_merged 34 rfl) rfl ?_
            refine pj_goto (t := 71) (pj_d p_X12_merged 35 rfl) (by decide) ?_
            exact fin _ (by rw [gd_mg, if_pos hy]; rfl)
          refine pj_icmp_ne (t := 70) (q := 47) (pj_d p_X12_merged 25 rfl) rfl (by decide) (fun c3 => ?_) (fun c3 => ?_)
          · exact no (fun q => c3 (by rw [q.1]))
          have heq := (nI_eq (by omega) (by omega)).mp c3
          refine pj_ild3 (q := 48) (pj_d p_X12_merged 26 rfl) rfl ?_
          refine pj_ldc (q := 50) (pj_d p_X12_merged 27 rfl) rfl kX12_90 ?_
          cases hm : gd_mg τ i j p with
          | none =>
            refine pj_icmp_eq (t := 65) (q := 53) (pj_d p_X12_merged 28 rfl) rfl (by decide) (fun c4 => ?_) (fun c4 => ?_)
            · rw [← hm]
              exact yes ⟨heq, fun s hs => by rw [hm] at hs; cases hs⟩
            · exact absurd rfl c4
          | some s =>
            have hs := gd_mg_lt τ i j p s hm
            refine pj_icmp_eq (t := 65) (q := 53) (pj_d p_X12_merged 28 rfl) rfl (by decide) (fun c4 => ?_) (fun c4 => ?_)
            · exact absurd c4 (gd_neg (by omega))
            show pj_V E B l Y_X12_merged 4 0 0 53 [some (.ref g), some (.int (nI i)), some (.int (nI j)), some (.int (nI s)), some (.int (nI p))] [] h n 0 0 _
            refine pj_ild4 (q := 55) (pj_d p_X12_merged 29 rfl) rfl ?_
            refine pj_cp (pj_rS (q := 58) (c_X12_bits p (by omega)) (pj_d p_X12_merged 30 rfl) rfl kX12_161 o_X12_bits (by rfl) (by rfl) (Nat.le_of_ble_eq_true rfl) (by decide)) (by decide) (by decide) ?_
            refine pj_ild3 (q := 59) (pj_d p_X12_merged 31 rfl) rfl ?_
            refine pj_cp (pj_rS (q := 62) (c_X12_bits s (by omega)) (pj_d p_X12_merged 32 rfl) rfl kX12_161 o_X12_bits (by rfl) (by rfl) (Nat.le_of_ble_eq_true rfl) (by decide)) (by decide) (by decide) ?_
            have b1 := gd_bits_le p
            have b2 := gd_bits_le s
            have es : nI s = gd_on (gd_mg τ i j p) := by rw [hm]; rfl
            rw [es]
            refine pj_icmp_ge (t := 70) (q := 65) (pj_d p_X12_merged 33 rfl) rfl (by decide) (fun c5 => ?_) (fun c5 => ?_)
            · have := gd_ge c5 (by omega) (by omega)
              exact no (fun q => by have := q.2 s hm; omega)
            · have := gd_lt c5 (by omega)
              exact yes ⟨heq, fun s' hs' => by rw [hm] at hs'; cases hs'; omega⟩
    exact loop 33 0 (by omega) (by omega)
  · refine pj_ldc (q := 16) (pj_d p_X12_merged 8 rfl) rfl kX12_67 ?_
    refine pj_iret rfl (pj_d p_X12_merged 9 rfl) (by decide) (by decide) ?_
    exact ⟨by rw [sp_merged, sp_two, (gd_b_z _).mp c1]; rfl, rfl, rfl⟩
theorem gd_lmul {x : Nat} (hx : x < 2147483647) : lN x * 16807 - lN x * 16807 / 2147483647 * 2147483647 = lN (x * 16807 % 2147483647) := by
  have e : lN x * 16807 = lN (x * 16807) := by
    rw [show (16807 : Int64) = lN 16807 from rfl, lN_mul]
  rw [e, show (2147483647 : Int64) = lN 2147483647 from rfl]
  exact pk_lRem (by omega) (by omega) (by omega)
theorem gd_lm6 {x : Nat} (hx : x < 2147483647) : (lN x - lN x / 6 * 6).toInt32 = nI (x % 6) := by
  rw [show (6 : Int64) = lN 6 from rfl, pk_lRem (by omega) (by omega) (by omega), lN_i]
theorem c_X12_year (hR : gd_MR h g v τ) (mm s w : Int32) : pj_Ct E B l Y_X12_year 4 0 0 [.ref g, .int mm, .int s, .int w] h n (pj_is (some (.int (sp_year τ mm s w))) h n) := by
  obtain ⟨hM, hT, hv, hW, h1⟩ := hR
  refine pj_in rfl (ls := [some (.ref g), some (.int (mm)), some (.int (s)), some (.int (w)), none, none, none, none, none, none]) rfl (Nat.le_of_ble_eq_true rfl) ?_
  refine gd_thr (pj_d p_X12_year 0 rfl) (pj_d p_X12_year 1 rfl) (pj_d p_X12_year 2 rfl) rfl hM hv ?_
  have bad : τ 0 = 1 → (gd_rng mm 0 200 && gd_rng s 1 999999 && gd_rng w 0 1) = false → pj_V E B l Y_X12_year 4 0 0 49 [some (.ref g), some (.int (mm)), some (.int (s)), some (.int (w)), none, none, none, none, none, none] [] h n 0 0 (pj_is (some (.int (sp_year τ mm s w))) h n) := by
    intro ht hx
    refine pj_ldc (q := 51) (pj_d p_X12_year 26 rfl) rfl kX12_67 ?_
    refine pj_iret rfl (pj_d p_X12_year 27 rfl) (by decide) (by decide) ?_
    exact ⟨by rw [sp_year, if_pos ht, hx]; rfl, rfl, rfl⟩
  refine pj_ald0 (q := 6) (pj_d p_X12_year 3 rfl) rfl ?_
  refine pj_cp (pj_rV (q := 9) (c_X12_isThere hM hT h1) (pj_d p_X12_year 4 rfl) rfl kX12_176 o_X12_isThere (by assumption) (by rfl) (by rfl) (by rfl) (by rfl) (Nat.le_of_ble_eq_true rfl) (by decide)) (by decide) (by decide) ?_
  refine pj_if_ne (t := 15) (q := 12) (pj_d p_X12_year 5 rfl) rfl (by decide) (fun c1 => ?_) (fun c1 => ?_)
  · have ht := gd_dec_t c1
    refine pj_ild1 (q := 16) (pj_d p_X12_year 8 rfl) rfl ?_
    refine pj_i2l (q := 17) (pj_d p_X12_year 9 rfl) rfl ?_
    refine pj_lconst (q := 18) (v := lN 0) (pj_d p_X12_year 10 rfl) rfl (by decide) ?_
    refine pj_ldc2 (q := 21) (pj_d p_X12_year 11 rfl) rfl kX12_231 ?_
    refine pj_cp (pj_rS (q := 24) (c_X12_in mm (lN 0) 200 0 200 (by decide) (by decide)) (pj_d p_X12_year 12 rfl) rfl kX12_57 o_X12_in (by rfl) (by rfl) (Nat.le_of_ble_eq_true rfl) (by decide)) (by decide) (by decide) ?_
    refine pj_if_eq (t := 49) (q := 27) (pj_d p_X12_year 13 rfl) rfl (by decide) (fun c2 => ?_) (fun c2 => ?_)
    · exact bad ht (by rw [(gd_b_z _).mp c2]; rfl)
    refine pj_ild2 (q := 28) (pj_d p_X12_year 14 rfl) rfl ?_
    refine pj_i2l (q := 29) (pj_d p_X12_year 15 rfl) rfl ?_
    refine pj_lconst (q := 30) (v := lN 1) (pj_d p_X12_year 16 rfl) rfl (by decide) ?_
    refine pj_ldc2 (q := 33) (pj_d p_X12_year 17 rfl) rfl kX12_233 ?_
    refine pj_cp (pj_rS (q := 36) (c_X12_in s (lN 1) 999999 1 999999 (by decide) (by decide)) (pj_d p_X12_year 18 rfl) rfl kX12_57 o_X12_in (by rfl) (by rfl) (Nat.le_of_ble_eq_true rfl) (by decide)) (by decide) (by decide) ?_
    refine pj_if_eq (t := 49) (q := 39) (pj_d p_X12_year 19 rfl) rfl (by decide) (fun c3 => ?_) (fun c3 => ?_)
    · exact bad ht (by rw [(gd_b_z _).mp c3]; simp)
    refine pj_ild3 (q := 40) (pj_d p_X12_year 20 rfl) rfl ?_
    refine pj_i2l (q := 41) (pj_d p_X12_year 21 rfl) rfl ?_
    refine pj_lconst (q := 42) (v := lN 0) (pj_d p_X12_year 22 rfl) rfl (by decide) ?_
    refine pj_lconst (q := 43) (v := lN 1) (pj_d p_X12_year 23 rfl) rfl (by decide) ?_
    refine pj_cp (pj_rS (q := 46) (c_X12_in w (lN 0) (lN 1) 0 1 (by decide) (by decide)) (pj_d p_X12_year 24 rfl) rfl kX12_57 o_X12_in (by rfl) (by rfl) (Nat.le_of_ble_eq_true rfl) (by decide)) (by decide) (by decide) ?_
    refine pj_if_ne (t := 52) (q := 49) (pj_d p_X12_year 25 rfl) rfl (by decide) (fun c4 => ?_) (fun c4 => ?_)
    · have e1 := (gd_b_n _).mp c2
      have e2 := (gd_b_n _).mp c3
      have e3 := (gd_b_n _).mp c4
      obtain ⟨c, hc, rfl, hcc⟩ := gd_rng_of (hi := 200) e1
      obtain ⟨x, hx1, hx, rfl, hxc⟩ := gd_rng_of1 (hi := 999999) e2
      obtain ⟨j, hj, rfl, hjc⟩ := gd_rng_of (hi := 1) e3
      have hji : (nI j).toInt = (j : Int) := nI_toInt (by omega)
      have hsp : sp_year τ (nI c) (nI x) (nI j) = if j = 0 then nI (gd_sm (gd_yh τ x) c) else nI (gd_sm (fun i => if gd_yh τ x i = 0 then 1 else 0) c) := by
        rw [sp_year, if_pos ht, e1, e2, e3, hcc, hxc, hji]
        simp
      rw [hsp]
      refine pj_ild2 (q := 53) (pj_d p_X12_year 28 rfl) rfl ?_
      refine pj_i2l (q := 54) (pj_d p_X12_year 29 rfl) rfl ?_
      rw [nI_l (by omega)]
      refine pj_lst4 (q := 56) (pj_d p_X12_year 30 rfl) rfl (by first | rfl | assumption) ?_
      refine pj_iconst (q := 57) (v := nI 0) (pj_d p_X12_year 31 rfl) rfl (by decide) ?_
      refine pj_ist6 (q := 59) (pj_d p_X12_year 32 rfl) rfl (by first | rfl | assumption) ?_
      refine pj_iconst (q := 60) (v := nI 0) (pj_d p_X12_year 33 rfl) rfl (by decide) ?_
      refine pj_ist7 (q := 62) (pj_d p_X12_year 34 rfl) rfl (by first | rfl | assumption) ?_
      refine pj_iconst (q := 63) (v := nI 0) (pj_d p_X12_year 35 rfl) rfl (by decide) ?_
      refine pj_ist8 (q := 65) (pj_d p_X12_year 36 rfl) rfl (by first | rfl | assumption) ?_
      generalize hf : (fun i => if gd_yh τ x i = 0 then 1 else 0) = f
      have loop : ∀ m i o9, pj_c1 o9 = true → c - i < m → i ≤ c → pj_V E B l Y_X12_year 4 0 0 65 [some (.ref g), some (.int (nI c)), some (.int (nI x)), some (.int (nI j)), some (.long (lN (gd_X x i))), none, some (.int (nI (gd_sm (gd_yh τ x) i))), some (.int (nI (gd_sm f i))), some (.int (nI i)), o9] [] h n 0 0 (pj_is (some (.int (if j = 0 then nI (gd_sm (gd_yh τ x) c) else nI (gd_sm f c)))) h n) := by
        intro m
        induction m with
        | zero => intro i o9 _ hi; omega
        | succ m ih =>
          intro i o9 k9 hi hle
          refine pj_ild8 (q := 67) (pj_d p_X12_year 37 rfl) rfl ?_
          refine pj_ild1 (q := 68) (pj_d p_X12_year 38 rfl) rfl ?_
          refine pj_icmp_ge (t := 127) (q := 71) (pj_d p_X12_year 39 rfl) rfl (by decide) (fun c5 => ?_) (fun c5 => ?_)
          · have he : i = c := by have := gd_ge c5 (by omega) (by omega); omega
            subst he
            refine pj_ild3 (q := 128) (pj_d p_X12_year 68 rfl) rfl ?_
            refine pj_if_ne (t := 136) (q := 131) (pj_d p_X12_year 69 rfl) rfl (by decide) (fun c6 => ?_) (fun c6 => ?_)
            · have hj0 : ¬ j = 0 := fun q => c6 (by rw [q]; rfl)
              refine pj_ild7 (q := 138) (pj_d p_X12_year 72 rfl) rfl ?_
              refine pj_iret rfl (pj_d p_X12_year 73 rfl) (by decide) (by decide) ?_
              exact ⟨by rw [if_neg hj0], rfl, rfl⟩
            · have hj0 : j = 0 := (nI_eq (by omega) (by omega)).mp (c6.trans nI_0.symm)
              refine pj_ild6 (q := 133) (pj_d p_X12_year 70 rfl) rfl ?_
              refine pj_goto (t := 138) (pj_d p_X12_year 71 rfl) (by decide) ?_
              refine pj_iret rfl (pj_d p_X12_year 73 rfl) (by decide) (by decide) ?_
              exact ⟨by rw [if_pos hj0], rfl, rfl⟩
          · have hlt : i < c := gd_lt c5 (by omega)
            have hX := gd_X_lt hx i
            have hX1 := gd_X_lt hx (i + 1)
            refine pj_lld4 (q := 73) (pj_d p_X12_year 40 rfl) rfl ?_
            refine pj_ldc2 (q := 76) (pj_d p_X12_year 41 rfl) rfl kX12_235 ?_
            refine pj_lmul (q := 77) (pj_d p_X12_year 42 rfl) rfl ?_
            refine pj_ldc2 (q := 80) (pj_d p_X12_year 43 rfl) rfl kX12_237 ?_
            refine pj_lrem (q := 81) (pj_d p_X12_year 44 rfl) rfl (by decide) ?_
            rw [gd_lmul hX]
            rw [show gd_X x i * 16807 % 2147483647 = gd_X x (i + 1) from rfl]
            refine pj_lst4 (q := 83) (pj_d p_X12_year 45 rfl) rfl (by first | rfl | assumption) ?_
            refine pj_ald0 (q := 84) (pj_d p_X12_year 46 rfl) rfl ?_
            refine pj_lld4 (q := 86) (pj_d p_X12_year 47 rfl) rfl ?_
            refine pj_ldc2 (q := 89) (pj_d p_X12_year 48 rfl) rfl kX12_187 ?_
            refine pj_lrem (q := 90) (pj_d p_X12_year 49 rfl) rfl (by decide) ?_
            refine pj_l2i (q := 91) (pj_d p_X12_year 50 rfl) rfl ?_
            rw [gd_lm6 hX1]
            have h6 : gd_X x (i + 1) % 6 ≤ 5 := by have := Nat.mod_lt (gd_X x (i + 1)) (show 0 < 6 by omega); omega
            refine pj_cp (pj_rS (q := 94) (c_X12_setOf _ h6) (pj_d p_X12_year 51 rfl) rfl kX12_164 o_X12_setOf (by rfl) (by rfl) (Nat.le_of_ble_eq_true rfl) (by decide)) (by decide) (by decide) ?_
            refine pj_cp (pj_rV (q := 97) (c_X12_harmBy hM hT hW (gd_setOf_lt _ h6)) (pj_d p_X12_year 52 rfl) rfl kX12_173 o_X12_harmBy (by assumption) (by rfl) (by rfl) (by rfl) (by rfl) (Nat.le_of_ble_eq_true rfl) (by decide)) (by decide) (by decide) ?_
            rw [show gd_harm τ (gd_setOf (gd_X x (i + 1) % 6)) = gd_yh τ x i from rfl]
            have hb : gd_yh τ x i ≤ 160 := gd_harm_le hW _
            refine pj_ist9 (q := 99) (pj_d p_X12_year 53 rfl) rfl (by first | rfl | assumption) ?_
            refine pj_ild6 (q := 101) (pj_d p_X12_year 54 rfl) rfl ?_
            refine pj_ild9 (q := 103) (pj_d p_X12_year 55 rfl) rfl ?_
            refine pj_iadd (q := 104) (pj_d p_X12_year 56 rfl) rfl ?_
            rw [nI_add]
            refine pj_ist6 (q := 106) (pj_d p_X12_year 57 rfl) rfl (by first | rfl | assumption) ?_
            refine pj_ild7 (q := 108) (pj_d p_X12_year 58 rfl) rfl ?_
            refine pj_ild9 (q := 110) (pj_d p_X12_year 59 rfl) rfl ?_
            have go : ∀ y, gd_sm f i + y = gd_sm f (i + 1) → pj_V E B l Y_X12_year 4 0 0 118 [some (.ref g), some (.int (nI c)), some (.int (nI x)), some (.int (nI j)), some (.long (lN (gd_X x (i + 1)))), none, some (.int (nI (gd_sm (gd_yh τ x) i + gd_yh τ x i))), some (.int (nI (gd_sm f i))), some (.int (nI i)), some (.int (nI (gd_yh τ x i)))] [.int (nI y), .int (nI (gd_sm f i))] h n 0 0 (pj_is (some (.int (if j = 0 then nI (gd_sm (gd_yh τ x) c) else nI (gd_sm f c)))) h n) := by
              intro y hy
              refine pj_iadd (q := 119) (pj_d p_X12_year 64 rfl) rfl ?_
              rw [nI_add, hy]
              refine pj_ist7 (q := 121) (pj_d p_X12_year 65 rfl) rfl (by first | rfl | assumption) ?_
              refine pj_iinc8 (q := 124) (v := 1) (pj_d p_X12_year 66 rfl) rfl (by first | rfl | assumption) (by decide) ?_
              refine pj_goto (t := 65) (pj_d p_X12_year 67 rfl) (by decide) ?_
              rw [nI_1]
              exact ih (i + 1) _ rfl (by omega) (by omega)
            refine pj_if_ne (t := 117) (q := 113) (pj_d p_X12_year 60 rfl) rfl (by decide) (fun c6 => ?_) (fun c6 => ?_)
            · have hne : ¬ gd_yh τ x i = 0 := fun q => c6 (by rw [q]; rfl)
              refine pj_iconst (q := 118) (v := nI 0) (pj_d p_X12_year 63 rfl) rfl (by decide) ?_
              exact go 0 (by rw [gd_sm, ← hf]; simp only [if_neg hne])
            · have heq := (nI_eq (by omega) (by omega)).mp (c6.trans nI_0.symm)
              refine pj_iconst (q := 114) (v := nI 1) (pj_d p_X12_year 61 rfl) rfl (by decide) ?_
              refine pj_goto (t := 118) (pj_d p_X12_year 62 rfl) (by decide) ?_
              exact go 1 (by rw [gd_sm, ← hf]; simp only [if_pos heq])
      exact loop (c + 1) 0 _ (show pj_c1 none = true from rfl) (by omega) (by omega)
    · exact bad ht (by rw [(gd_b_z _).mp c4]; simp)
  · have ht := gd_dec_f c1
    refine pj_ldc (q := 14) (pj_d p_X12_year 6 rfl) rfl kX12_179 ?_
    refine pj_iret rfl (pj_d p_X12_year 7 rfl) (by decide) (by decide) ?_
    exact ⟨by simp [sp_year, ht], rfl, rfl⟩
end
