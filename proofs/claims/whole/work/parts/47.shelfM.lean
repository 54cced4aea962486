/-! ===== shelf: the model's ===== -/
theorem gd_ul_c {τ : Nat → Nat} {st a t : Nat} : gd_ul τ st (some a) t = !decide (gd_lk τ t st = gd_lk τ a st) := by
  show (!decide (gd_lk τ a st = gd_lk τ t st)) = _
  by_cases e : gd_lk τ a st = gd_lk τ t st
  · rw [decide_eq_true e, decide_eq_true e.symm]
  · rw [decide_eq_false e, decide_eq_false (fun q => e q.symm)]
def gd_ft (τ : Nat → Nat) (st S a t : Nat) : Nat := if gd_cf τ st S (some a) t = true then gd_ey τ st (S + 2 ^ t) t else 0
theorem gd_ey_m {τ : Nat → Nat} {st S a : Nat} (h7 : τ 1 ≤ 7) (hS : S < 2 ^ τ 1) : gd_ey τ st S a = (if S + 1 = 2 ^ τ 1 then 1 else 0) + gd_sm (gd_ft τ st S a) (τ 1) := by
  rw [gd_ey_eq h7 hS]
  by_cases e : S + 1 = 2 ^ τ 1
  · rw [if_pos e, if_pos e, gd_sm_0 (τ 1) (fun t ht => ?_)]
    have hb := gd_allb (τ 1) (by omega) t ht
    rw [show 2 ^ τ 1 - 1 = S by omega] at hb
    rw [gd_ft, if_neg (fun q => by have := gd_cf_t q; omega)]
  · rw [if_neg e, if_neg e, Nat.zero_add]
    rfl
theorem gd_ey_le {τ : Nat → Nat} {st S a : Nat} (h7 : τ 1 ≤ 7) : gd_ey τ st S a ≤ 5764801 := by
  have h1 := gd_en_le (st := st) h7 (8 - gd_bits S) S a
  have h2 : 7 ^ (8 - gd_bits S) ≤ 7 ^ 8 := Nat.pow_le_pow_right (by omega) (by omega)
  rw [gd_ey]
  omega
theorem gd_so_lt {τ : Nat → Nat} {st : Nat} (h7 : τ 1 ≤ 7) : gd_so τ st < 2 ^ 31 := by
  have h1 : gd_so τ st ≤ τ 1 * 5764801 := gd_sm_le (fun t _ => gd_ey_le h7)
  omega
theorem gd_sm_z {f : Nat → Nat} : ∀ {m : Nat}, gd_sm f m = 0 → ∀ i, i < m → f i = 0
  | 0, _, i, hi => absurd hi (Nat.not_lt_zero i)
  | m + 1, h, i, hi => by
    rw [gd_sm] at h
    by_cases e : i = m
    · rw [e]; omega
    · exact gd_sm_z (m := m) (by omega) i (by omega)
theorem gd_sm_pos {f : Nat → Nat} : ∀ {m : Nat}, 0 < gd_sm f m → ∃ i, i < m ∧ 0 < f i
  | 0, h => absurd h (Nat.lt_irrefl 0)
  | m + 1, h => by
    rw [gd_sm] at h
    by_cases e : 0 < f m
    · exact ⟨m, by omega, e⟩
    · obtain ⟨i, h1, h2⟩ := gd_sm_pos (f := f) (m := m) (by omega)
      exact ⟨i, by omega, h2⟩
theorem gd_nx_0 {τ : Nat → Nat} {st : Nat} (h : gd_so τ st = 0) : gd_nx τ st 0 none = none := by
  cases e : gd_nx τ st 0 none with
  | none => rfl
  | some t =>
    obtain ⟨t1, -, t3, -⟩ := gd_nx_some e
    have := gd_sm_z h t t1
    rw [Nat.zero_add] at t3
    omega
theorem gd_nx_ex {τ : Nat → Nat} {st S : Nat} {o : Option Nat} (h7 : τ 1 ≤ 7) (hS : S < 2 ^ τ 1) (hb : gd_bits S < τ 1) (h0 : o = none → S = 0 ∧ 0 < gd_so τ st) (h1 : ∀ a, o = some a → 0 < gd_ey τ st S a) : ∃ t, gd_nx τ st S o = some t := by
  cases e : gd_nx τ st S o with
  | some t => exact ⟨t, rfl⟩
  | none =>
    have hn := gd_nxF_none _ _ e
    have key : ∃ t, t < τ 1 ∧ gd_cf τ st S o t = true ∧ 0 < gd_ey τ st (S + 2 ^ t) t := by
      cases o with
      | none =>
        obtain ⟨z, p⟩ := h0 rfl
        obtain ⟨t, t1, t2⟩ := gd_sm_pos p
        refine ⟨t, t1, ?_, ?_⟩
        · rw [z, gd_cf, decide_eq_true (by rw [Nat.zero_div])]; rfl
        · rw [z, Nat.zero_add]; exact t2
      | some a =>
        have p := h1 a rfl
        have ne : ¬ S + 1 = 2 ^ τ 1 := fun q => by
          have := gd_bits_all (τ 1) (by omega)
          rw [show 2 ^ τ 1 - 1 = S by omega] at this
          omega
        rw [gd_ey_m h7 hS, if_neg ne, Nat.zero_add] at p
        obtain ⟨t, t1, t2⟩ := gd_sm_pos p
        rw [gd_ft] at t2
        by_cases q : gd_cf τ st S (some a) t = true
        · rw [if_pos q] at t2; exact ⟨t, t1, q, t2⟩
        · rw [if_neg q] at t2; exact absurd t2 (Nat.lt_irrefl 0)
    obtain ⟨t, t1, t2, t3⟩ := key
    have := hn t (by omega) (by omega)
    rw [gd_nP, t2, decide_eq_true t3] at this
    exact absurd this (by decide)
theorem gd_c4 {S a s i : Nat} (ha : a < 7) (hi : i < 7) (h : ¬ (S = s ∧ a = i)) : 7 * S + a ≠ 7 * s + i := by omega
section
variable {E : pj_E} {B : Nat} {l : Launch} {h : pj_H} {n g : Nat} {τ : Nat → Nat} {v : Nat → Int32}
theorem c_X12_follow {fo : Nat → Int32} (hM : h g = some (.inr (11, gd_Mo g v))) (hT : h (g + 4) = some (.inl (0, 56, .inl (fun j => nI (τ j))))) (hW : gd_W τ) (h9 : h (g + 9) = some (.inl (0, 896, .inl fo))) {S a d : Nat} (hS : S < 2 ^ τ 1) (ha : a < τ 1) (hd : d ≤ 1000) (hE : ∀ t, t < τ 1 → S / 2 ^ t % 2 = 0 → fo (7 * (S + 2 ^ t) + t) = nI (gd_ey τ (gd_miss τ d) (S + 2 ^ t) t)) : pj_Ct E B l Y_X12_follow 4 0 0 [.ref g, .int (nI S), .int (nI a), .int (nI d)] h n (pj_is (some (.int (nI (gd_ey τ (gd_miss τ d) S a)))) h n) := by
  have h7 := hW.1
  have S128 := gd_p128 h7 hS
  have pw : 1 ≤ 2 ^ τ 1 := Nat.pow_pos (by omega)
  have pw7 : 2 ^ τ 1 ≤ 128 := Nat.pow_le_pow_right (n := 2) (by omega) h7
  have AL := fun (t : Nat) (ht : t < τ 1) => c_X12_areAlike (E := E) (B := B) (l := l) (n := n) hM hT hW (a := t) (b := a) (d := d) ht ha hd
  generalize gd_miss τ d = st at hE AL ⊢
  rw [gd_ey_m h7 hS]
  refine pj_in rfl (ls := [some (.ref g), some (.int (nI S)), some (.int (nI a)), some (.int (nI d)), none, none, none]) rfl (Nat.le_of_ble_eq_true rfl) ?_
  refine pj_iconst (q := 1) (v := nI 1) (pj_d p_X12_follow 0 rfl) rfl (by decide) ?_
  refine pj_ald0 (q := 2) (pj_d p_X12_follow 1 rfl) rfl ?_
  refine pj_gf (q := 5) (k := 5) (pj_d p_X12_follow 2 rfl) rfl kX12_19 (by first | assumption | exact pj_up_s | exact (pj_up_n (by omega)).trans (by assumption)) (by rfl) (by rfl) ?_
  refine pj_iconst (q := 6) (v := nI 1) (pj_d p_X12_follow 3 rfl) rfl (by decide) ?_
  refine pj_ialdN (q := 7) (pj_d p_X12_follow 4 rfl) rfl (by first | assumption | exact pj_up_s | exact (pj_up_n (by omega)).trans (by assumption)) (by rfl) (by first | assumption | omega) (Nat.le_of_ble_eq_true rfl) ?_
  refine pj_ishl (q := 8) (pj_d p_X12_follow 5 rfl) rfl ?_
  rw [gd_shl1 (τ 1) (by omega)]
  refine pj_iconst (q := 9) (v := nI 1) (pj_d p_X12_follow 6 rfl) rfl (by decide) ?_
  refine pj_isub (q := 10) (pj_d p_X12_follow 7 rfl) rfl ?_
  rw [gd_sub pw]
  have loop : ∀ m t, τ 1 - t < m → t ≤ τ 1 → pj_V E B l Y_X12_follow 4 0 0 28 [some (.ref g), some (.int (nI S)), some (.int (nI a)), some (.int (nI d)), some (.int (nI (2 ^ τ 1 - 1))), some (.int (nI ((if S + 1 = 2 ^ τ 1 then 1 else 0) + gd_sm (gd_ft τ st S a) t))), some (.int (nI t))] [] h n 0 0 (pj_is (some (.int (nI ((if S + 1 = 2 ^ τ 1 then 1 else 0) + gd_sm (gd_ft τ st S a) (τ 1))))) h n) := by
    intro m
    induction m with
    | zero => intro t hi; omega
    | succ m ih =>
      intro t hi hle
      refine pj_ild6 (q := 30) (pj_d p_X12_follow 18 rfl) rfl ?_
      refine pj_ald0 (q := 31) (pj_d p_X12_follow 19 rfl) rfl ?_
      refine pj_gf (q := 34) (k := 5) (pj_d p_X12_follow 20 rfl) rfl kX12_19 (by first | assumption | exact pj_up_s | exact (pj_up_n (by omega)).trans (by assumption)) (by rfl) (by rfl) ?_
      refine pj_iconst (q := 35) (v := nI 1) (pj_d p_X12_follow 21 rfl) rfl (by decide) ?_
      refine pj_ialdN (q := 36) (pj_d p_X12_follow 22 rfl) rfl (by first | assumption | exact pj_up_s | exact (pj_up_n (by omega)).trans (by assumption)) (by rfl) (by first | assumption | omega) (Nat.le_of_ble_eq_true rfl) ?_
      refine pj_icmp_ge (t := 91) (q := 39) (pj_d p_X12_follow 23 rfl) rfl (by decide) (fun c1 => ?_) (fun c1 => ?_)
      · have he : t = τ 1 := by have := gd_ge c1 (by omega) (by omega); omega
        rw [he]
        refine pj_ild5 (q := 93) (pj_d p_X12_follow 55 rfl) rfl ?_
        refine pj_iret rfl (pj_d p_X12_follow 56 rfl) (by decide) (by decide) ?_
        exact ⟨rfl, rfl, rfl⟩
      have hlt : t < τ 1 := gd_lt c1 (by omega)
      have nx : ∀ x, x = gd_ft τ st S a t → pj_V E B l Y_X12_follow 4 0 0 82 [some (.ref g), some (.int (nI S)), some (.int (nI a)), some (.int (nI d)), some (.int (nI (2 ^ τ 1 - 1))), some (.int (nI ((if S + 1 = 2 ^ τ 1 then 1 else 0) + gd_sm (gd_ft τ st S a) t))), some (.int (nI t))] [.int (nI x), .int (nI ((if S + 1 = 2 ^ τ 1 then 1 else 0) + gd_sm (gd_ft τ st S a) t))] h n 0 0 (pj_is (some (.int (nI ((if S + 1 = 2 ^ τ 1 then 1 else 0) + gd_sm (gd_ft τ st S a) (τ 1))))) h n) := by
        intro x hx
        rw [hx]
        refine pj_iadd (q := 83) (pj_d p_X12_follow 51 rfl) rfl ?_
        rw [nI_add, Nat.add_assoc]
        refine pj_ist5 (q := 85) (pj_d p_X12_follow 52 rfl) rfl (by first | rfl | assumption) ?_
        refine pj_iinc6 (q := 88) (v := 1) (pj_d p_X12_follow 53 rfl) rfl (by first | rfl | assumption) (by decide) ?_
        refine pj_goto (t := 28) (pj_d p_X12_follow 54 rfl) (by decide) ?_
        rw [nI_1]
        exact ih (t + 1) (by omega) (by omega)
      refine pj_ild5 (q := 41) (pj_d p_X12_follow 24 rfl) rfl ?_
      refine pj_ild1 (q := 42) (pj_d p_X12_follow 25 rfl) rfl ?_
      refine pj_ild6 (q := 44) (pj_d p_X12_follow 26 rfl) rfl ?_
      refine pj_ishr (q := 45) (pj_d p_X12_follow 27 rfl) rfl ?_
      refine pj_iconst (q := 46) (v := nI 1) (pj_d p_X12_follow 28 rfl) rfl (by decide) ?_
      refine pj_iand (q := 47) (pj_d p_X12_follow 29 rfl) rfl ?_
      rw [gd_shr1 S S128 t (by omega)]
      refine pj_if_ne (t := 81) (q := 50) (pj_d p_X12_follow 30 rfl) rfl (by decide) (fun c2 => ?_) (fun c2 => ?_)
      · have e : ¬ S / 2 ^ t % 2 = 0 := fun q => c2 (by rw [q]; rfl)
        refine pj_iconst (q := 82) (v := nI 0) (pj_d p_X12_follow 50 rfl) rfl (by decide) ?_
        exact nx 0 (by rw [gd_ft, if_neg (fun q => e (gd_cf_t q))])
      have eb : S / 2 ^ t % 2 = 0 := (nI_eq (by omega) (by omega)).mp (c2.trans nI_0.symm)
      refine pj_ald0 (q := 51) (pj_d p_X12_follow 31 rfl) rfl ?_
      refine pj_ild6 (q := 53) (pj_d p_X12_follow 32 rfl) rfl ?_
      refine pj_ild2 (q := 54) (pj_d p_X12_follow 33 rfl) rfl ?_
      refine pj_ild3 (q := 55) (pj_d p_X12_follow 34 rfl) rfl ?_
      refine pj_cp (pj_rV (q := 58) (AL t hlt) (pj_d p_X12_follow 35 rfl) rfl kX12_198 o_X12_areAlike (by first | assumption | exact pj_up_s | exact (pj_up_n (by omega)).trans (by assumption)) (by rfl) (by rfl) (by rfl) (by rfl) (Nat.le_of_ble_eq_true rfl) (by decide)) (by decide) (by decide) ?_
      refine pj_if_ne (t := 81) (q := 61) (pj_d p_X12_follow 36 rfl) rfl (by decide) (fun c3 => ?_) (fun c3 => ?_)
      · have e := (gd_b_n _).mp c3
        refine pj_iconst (q := 82) (v := nI 0) (pj_d p_X12_follow 50 rfl) rfl (by decide) ?_
        exact nx 0 (by rw [gd_ft, if_neg (fun q => by rw [gd_cf, gd_ul_c, e, Bool.and_eq_true] at q; exact absurd q.2 (by decide))])
      have e := (gd_b_z _).mp c3
      have ec : gd_cf τ st S (some a) t = true := by rw [gd_cf, gd_ul_c, e, decide_eq_true eb]; rfl
      have hlt2 := gd_S_lt (τ 1) (by omega) S hS t hlt eb
      have s128 := gd_p128 h7 hlt2
      have ix : 7 * (S + 2 ^ t) + t < 896 := by omega
      refine pj_ald0 (q := 62) (pj_d p_X12_follow 37 rfl) rfl ?_
      refine pj_gf (q := 65) (k := 19) (pj_d p_X12_follow 38 rfl) rfl kX12_34 (by first | assumption | exact pj_up_s | exact (pj_up_n (by omega)).trans (by assumption)) (by rfl) (by rfl) ?_
      refine pj_bipush (q := 67) (v := nI 7) (pj_d p_X12_follow 39 rfl) rfl (by decide) ?_
      refine pj_ild1 (q := 68) (pj_d p_X12_follow 40 rfl) rfl ?_
      refine pj_iconst (q := 69) (v := nI 1) (pj_d p_X12_follow 41 rfl) rfl (by decide) ?_
      refine pj_ild6 (q := 71) (pj_d p_X12_follow 42 rfl) rfl ?_
      refine pj_ishl (q := 72) (pj_d p_X12_follow 43 rfl) rfl ?_
      rw [gd_shl1 t (by omega)]
      refine pj_ior (q := 73) (pj_d p_X12_follow 44 rfl) rfl ?_
      rw [gd_or3 S S128 t (by omega) eb]
      refine pj_imul (q := 74) (pj_d p_X12_follow 45 rfl) rfl ?_
      refine pj_ild6 (q := 76) (pj_d p_X12_follow 46 rfl) rfl ?_
      refine pj_iadd (q := 77) (pj_d p_X12_follow 47 rfl) rfl ?_
      rw [pk_mul, nI_add]
      refine pj_ialdN (q := 78) (pj_d p_X12_follow 48 rfl) rfl (by first | assumption | exact pj_up_s | exact (pj_up_n (by omega)).trans (by assumption)) (by rfl) (by first | assumption | omega) (Nat.le_of_ble_eq_true rfl) ?_
      rw [hE t hlt eb]
      refine pj_goto (t := 82) (pj_d p_X12_follow 49 rfl) (by decide) ?_
      exact nx _ (by rw [gd_ft, if_pos ec])
  have go : ∀ x, x = (if S + 1 = 2 ^ τ 1 then 1 else 0) → pj_V E B l Y_X12_follow 4 0 0 23 [some (.ref g), some (.int (nI S)), some (.int (nI a)), some (.int (nI d)), some (.int (nI (2 ^ τ 1 - 1))), none, none] [.int (nI x)] h n 0 0 (pj_is (some (.int (nI ((if S + 1 = 2 ^ τ 1 then 1 else 0) + gd_sm (gd_ft τ st S a) (τ 1))))) h n) := by
    intro x hx
    rw [hx]
    refine pj_ist5 (q := 25) (pj_d p_X12_follow 15 rfl) rfl (by first | rfl | assumption) ?_
    refine pj_iconst (q := 26) (v := nI 0) (pj_d p_X12_follow 16 rfl) rfl (by decide) ?_
    refine pj_ist6 (q := 28) (pj_d p_X12_follow 17 rfl) rfl (by first | rfl | assumption) ?_
    exact loop (τ 1 + 1) 0 (by omega) (by omega)
  refine pj_ist4 (q := 12) (pj_d p_X12_follow 8 rfl) rfl (by first | rfl | assumption) ?_
  refine pj_ild1 (q := 13) (pj_d p_X12_follow 9 rfl) rfl ?_
  refine pj_ild4 (q := 15) (pj_d p_X12_follow 10 rfl) rfl ?_
  refine pj_icmp_ne (t := 22) (q := 18) (pj_d p_X12_follow 11 rfl) rfl (by decide) (fun c1 => ?_) (fun c1 => ?_)
  · have e : ¬ S + 1 = 2 ^ τ 1 := fun q => c1 (by rw [← q]; rfl)
    refine pj_iconst (q := 23) (v := nI 0) (pj_d p_X12_follow 14 rfl) rfl (by decide) ?_
    exact go 0 (by rw [if_neg e])
  · have e : S = 2 ^ τ 1 - 1 := (nI_eq (by omega) (by omega)).mp c1
    refine pj_iconst (q := 19) (v := nI 1) (pj_d p_X12_follow 12 rfl) rfl (by decide) ?_
    refine pj_goto (t := 23) (pj_d p_X12_follow 13 rfl) (by decide) ?_
    exact go 1 (by rw [if_pos (by omega)])
theorem c_X12_shelf {f9 : Nat → Int32} (hR : gd_MR h g v τ) (h9 : h (g + 9) = some (.inl (0, 896, .inl f9))) (x y : Int32) : pj_Ct E B l Y_X12_shelf 5 0 0 [.ref g, .int x, .int y] h n (gd_sr (sp_shelf τ x y) h (g + 9) 896 n) := by
  obtain ⟨hM, hT, hv, hW, h1⟩ := hR
  have h7 := hW.1
  refine pj_in rfl (ls := [some (.ref g), some (.int (x)), some (.int (y)), none, none, none, none, none, none]) rfl (Nat.le_of_ble_eq_true rfl) ?_
  refine gd_thr (pj_d p_X12_shelf 0 rfl) (pj_d p_X12_shelf 1 rfl) (pj_d p_X12_shelf 2 rfl) rfl hM hv ?_
  refine pj_ald0 (q := 6) (pj_d p_X12_shelf 3 rfl) rfl ?_
  refine pj_cp (pj_rV (q := 9) (c_X12_isThere hM hT h1) (pj_d p_X12_shelf 4 rfl) rfl kX12_176 o_X12_isThere (by first | assumption | exact pj_up_s | exact (pj_up_n (by omega)).trans (by assumption)) (by rfl) (by rfl) (by rfl) (by rfl) (Nat.le_of_ble_eq_true rfl) (by decide)) (by decide) (by decide) ?_
  refine pj_if_ne (t := 15) (q := 12) (pj_d p_X12_shelf 5 rfl) rfl (by decide) (fun c1 => ?_) (fun c1 => ?_)
  rotate_left
  · have ht := gd_dec_f c1
    refine pj_ldc (q := 14) (pj_d p_X12_shelf 6 rfl) rfl kX12_179 ?_
    refine pj_iret rfl (pj_d p_X12_shelf 7 rfl) (by decide) (by decide) ?_
    exact gd_sr_same h9 (by simp [sp_shelf, ht])
  have ht := gd_dec_t c1
  have bad : ¬ (gd_rng x 0 100 = true ∧ gd_rng y (-1) 6 = true) → pj_V E B l Y_X12_shelf 5 0 0 36 [some (.ref g), some (.int (x)), some (.int (y)), none, none, none, none, none, none] [] h n 0 0 (gd_sr (sp_shelf τ x y) h (g + 9) 896 n) := by
    intro hn
    refine pj_ldc (q := 38) (pj_d p_X12_shelf 17 rfl) rfl kX12_67 ?_
    refine pj_iret rfl (pj_d p_X12_shelf 18 rfl) (by decide) (by decide) ?_
    exact gd_sr_same h9 (by rw [sp_shelf, if_pos ht, if_neg hn])
  refine pj_ild1 (q := 16) (pj_d p_X12_shelf 8 rfl) rfl ?_
  refine pj_cp (pj_rS (q := 19) (c_X12_isFar x) (pj_d p_X12_shelf 9 rfl) rfl kX12_195 o_X12_isFar (by rfl) (by rfl) (Nat.le_of_ble_eq_true rfl) (by decide)) (by decide) (by decide) ?_
  refine pj_if_eq (t := 36) (q := 22) (pj_d p_X12_shelf 10 rfl) rfl (by decide) (fun c2 => ?_) (fun c2 => ?_)
  · exact bad (fun q => by rw [(gd_b_z _).mp c2] at q; exact absurd q.1 (by decide))
  have e1 := (gd_b_n _).mp c2
  obtain ⟨d, hd, rfl, hdc⟩ := gd_rng_of (hi := 100) e1
  refine pj_ild2 (q := 23) (pj_d p_X12_shelf 11 rfl) rfl ?_
  refine pj_i2l (q := 24) (pj_d p_X12_shelf 12 rfl) rfl ?_
  refine pj_ldc2 (q := 27) (pj_d p_X12_shelf 13 rfl) rfl kX12_211 ?_
  refine pj_ldc2 (q := 30) (pj_d p_X12_shelf 14 rfl) rfl kX12_187 ?_
  refine pj_cp (pj_rS (q := 33) (c_X12_in y (-1) 6 (-1) 6 (by decide) (by decide)) (pj_d p_X12_shelf 15 rfl) rfl kX12_57 o_X12_in (by rfl) (by rfl) (Nat.le_of_ble_eq_true rfl) (by decide)) (by decide) (by decide) ?_
  refine pj_if_ne (t := 39) (q := 36) (pj_d p_X12_shelf 16 rfl) rfl (by decide) (fun c3 => ?_) (fun c3 => ?_)
  rotate_left
  · exact bad (fun q => by rw [(gd_b_z _).mp c3] at q; exact absurd q.2 (by decide))
  have e2 := (gd_b_n _).mp c3
  have e3 := e2
  rw [gd_rng, decide_eq_true_eq] at e3
  clear bad c1 c2 c3
  have AL := fun (h' : pj_H) (n' : Nat) (a1 : h' g = some (.inr (11, gd_Mo g v))) (a2 : h' (g + 4) = some (.inl (0, 56, .inl (fun j => nI (τ j))))) (t a : Nat) (ht : t < τ 1) (ha : a < τ 1) => c_X12_areAlike (E := E) (B := B) (l := l) (n := n') a1 a2 hW (a := t) (b := a) (d := d) ht ha (by omega)
  have FO := fun (h' : pj_H) (n' : Nat) (fo : Nat → Int32) (a1 : h' g = some (.inr (11, gd_Mo g v))) (a2 : h' (g + 4) = some (.inl (0, 56, .inl (fun j => nI (τ j))))) (a3 : h' (g + 9) = some (.inl (0, 896, .inl fo))) (S a : Nat) (hS : S < 2 ^ τ 1) (ha : a < τ 1) => c_X12_follow (E := E) (B := B) (l := l) (n := n') a1 a2 hW a3 (S := S) (a := a) (d := d) hS ha (by omega)
  have hsp : sp_shelf τ (nI d) y = if y.toInt < 0 then nI (if τ 1 = 0 then 1 else gd_so τ (gd_miss τ d)) else gd_sk τ (gd_miss τ d) y.toNatClampNeg := by rw [sp_shelf, if_pos ht, if_pos ⟨e1, e2⟩, hdc]
  rw [hsp]
  clear hsp
  generalize gd_miss τ d = st at AL FO ⊢
  have pw : 1 ≤ 2 ^ τ 1 := Nat.pow_pos (by omega)
  have pw7 : 2 ^ τ 1 ≤ 128 := Nat.pow_le_pow_right (n := 2) (by omega) h7
  have after : ∀ fo (o5 o6 : Option Value), (∀ S, 0 < S → S < 2 ^ τ 1 → ∀ a, a < τ 1 → S / 2 ^ a % 2 = 1 → fo (7 * S + a) = nI (gd_ey τ st S a)) → pj_V E B l Y_X12_shelf 5 0 0 127 [some (.ref g), some (.int (nI d)), some (.int y), some (.int (nI (τ 1))), some (.int (nI (if τ 1 = 0 then 1 else 0))), o5, o6, none, none] [] (pj_up h (g + 9) (.inl (0, 896, .inl fo))) n 0 0 (gd_sr (if y.toInt < 0 then nI (if τ 1 = 0 then 1 else gd_so τ st) else gd_sk τ st y.toNatClampNeg) h (g + 9) 896 n) := by
    intro fo o5 o6 hE
    have hM1 : pj_up h (g + 9) (.inl (0, 896, .inl fo)) g = some (.inr (11, gd_Mo g v)) := (pj_up_n (by omega)).trans hM
    have hT1 : pj_up h (g + 9) (.inl (0, 896, .inl fo)) (g + 4) = some (.inl (0, 56, .inl (fun j => nI (τ j)))) := (pj_up_n (by omega)).trans hT
    have sol := gd_so_lt (st := st) h7
    have fin : pj_V E B l Y_X12_shelf 5 0 0 162 [some (.ref g), some (.int (nI d)), some (.int y), some (.int (nI (τ 1))), some (.int (nI (if τ 1 = 0 then 1 else gd_so τ st))), some (.int (nI (τ 1))), o6, none, none] [] (pj_up h (g + 9) (.inl (0, 896, .inl fo))) n 0 0 (gd_sr (if y.toInt < 0 then nI (if τ 1 = 0 then 1 else gd_so τ st) else gd_sk τ st y.toNatClampNeg) h (g + 9) 896 n) := by
      refine pj_ild2 (q := 163) (pj_d p_X12_shelf 89 rfl) rfl ?_
      refine pj_if_ge (t := 169) (q := 166) (pj_d p_X12_shelf 90 rfl) rfl (by decide) (fun c4 => ?_) (fun c4 => ?_)
      rotate_left
      · rw [Int32.le_iff_toInt_le, show (0 : Int32).toInt = 0 by decide] at c4
        rw [if_pos (show y.toInt < 0 by omega)]
        refine pj_ild4 (q := 168) (pj_d p_X12_shelf 91 rfl) rfl ?_
        refine pj_iret rfl (pj_d p_X12_shelf 92 rfl) (by decide) (by decide) ?_
        exact ⟨rfl, rfl, fo, rfl⟩
      rw [Int32.le_iff_toInt_le, show (0 : Int32).toInt = 0 by decide] at c4
      rw [if_neg (show ¬ y.toInt < 0 by omega)]
      obtain ⟨j, hj, rfl⟩ := nI_of (x := y) (by rw [Int32.lt_iff_toInt_lt, show (0 : Int32).toInt = 0 by decide]; omega)
      have nj : (nI j).toInt = j := nI_toInt hj
      rw [nI_clamp (n := j) hj]
      have none' : gd_sk τ st j = -1000000 → pj_V E B l Y_X12_shelf 5 0 0 179 [some (.ref g), some (.int (nI d)), some (.int (nI j)), some (.int (nI (τ 1))), some (.int (nI (if τ 1 = 0 then 1 else gd_so τ st))), some (.int (nI (τ 1))), o6, none, none] [] (pj_up h (g + 9) (.inl (0, 896, .inl fo))) n 0 0 (gd_sr (gd_sk τ st j) h (g + 9) 896 n) := by
        intro e
        rw [e]
        refine pj_ldc (q := 181) (pj_d p_X12_shelf 98 rfl) rfl kX12_90 ?_
        refine pj_iret rfl (pj_d p_X12_shelf 99 rfl) (by decide) (by decide) ?_
        exact ⟨rfl, rfl, fo, rfl⟩
      refine pj_ild4 (q := 171) (pj_d p_X12_shelf 93 rfl) rfl ?_
      refine pj_if_eq (t := 179) (q := 174) (pj_d p_X12_shelf 94 rfl) rfl (by decide) (fun c5 => ?_) (fun c5 => ?_)
      · by_cases z : τ 1 = 0
        · rw [if_pos z] at c5
          exact absurd c5 (by decide)
        · rw [if_neg z] at c5
          have so0 : gd_so τ st = 0 := (nI_eq (by omega) (by omega)).mp (c5.trans nI_0.symm)
          exact none' (gd_sk_n (i := 1) (by omega) (gd_shf_n (i := 0) (S := 0) (o := none) rfl (gd_nx_0 so0)))
      refine pj_ild2 (q := 175) (pj_d p_X12_shelf 95 rfl) rfl ?_
      refine pj_ild3 (q := 176) (pj_d p_X12_shelf 96 rfl) rfl ?_
      refine pj_icmp_lt (t := 182) (q := 179) (pj_d p_X12_shelf 97 rfl) rfl (by decide) (fun c6 => ?_) (fun c6 => ?_)
      rotate_left
      · have : ¬ j < τ 1 := fun q => c6 (nI_lt q (by omega))
        exact none' (by rw [gd_sk, if_neg this])
      have hjT : j < τ 1 := (nI_ltI (by omega) (by omega)).mp c6
      have T0 : ¬ τ 1 = 0 := by omega
      rw [if_neg T0] at c5 ⊢
      have so1 : 0 < gd_so τ st := by
        have : ¬ gd_so τ st = 0 := fun q => c5 (by rw [q]; rfl)
        omega
      clear none' c5 c6
      refine pj_iconst (q := 183) (v := nI 0) (pj_d p_X12_shelf 100 rfl) rfl (by decide) ?_
      refine pj_ist5 (q := 185) (pj_d p_X12_shelf 101 rfl) rfl (by first | rfl | assumption) ?_
      refine pj_ldc (q := 187) (pj_d p_X12_shelf 102 rfl) rfl kX12_90 ?_
      refine pj_ist6 (q := 189) (pj_d p_X12_shelf 103 rfl) rfl (by first | rfl | assumption) ?_
      refine pj_iconst (q := 190) (v := nI 0) (pj_d p_X12_shelf 104 rfl) rfl (by decide) ?_
      refine pj_ist7 (q := 192) (pj_d p_X12_shelf 105 rfl) rfl (by first | rfl | assumption) ?_
      have loop : ∀ m i S o (o8 : Option Value), gd_shf τ st i = some (S, o) → S < 2 ^ τ 1 → gd_bits S = i → (∀ a, o = some a → a < τ 1 ∧ 0 < gd_ey τ st S a) → (o = none → S = 0) → j + 1 - i < m → i ≤ j + 1 → pj_V E B l Y_X12_shelf 5 0 0 192 [some (.ref g), some (.int (nI d)), some (.int (nI j)), some (.int (nI (τ 1))), some (.int (nI (gd_so τ st))), some (.int (nI S)), some (.int (gd_lv o)), some (.int (nI i)), o8] [] (pj_up h (g + 9) (.inl (0, 896, .inl fo))) n 0 0 (gd_sr (gd_sk τ st j) h (g + 9) 896 n) := by
        intro m
        induction m with
        | zero => intro i S o o8 _ _ _ _ _ hi; omega
        | succ m ih =>
          intro i S o o8 hq hS hb ho hz hi hle
          have S128 := gd_p128 h7 hS
          refine pj_ild7 (q := 194) (pj_d p_X12_shelf 106 rfl) rfl ?_
          refine pj_ild2 (q := 195) (pj_d p_X12_shelf 107 rfl) rfl ?_
          refine pj_icmp_gt (t := 277) (q := 198) (pj_d p_X12_shelf 108 rfl) rfl (by decide) (fun c7 => ?_) (fun c7 => ?_)
          · have he : i = j + 1 := by have := (nI_ltI (by omega) (by omega)).mp c7; omega
            rw [he] at hq
            rw [gd_sk_s hjT hq]
            refine pj_ild6 (q := 279) (pj_d p_X12_shelf 152 rfl) rfl ?_
            refine pj_iret rfl (pj_d p_X12_shelf 153 rfl) (by decide) (by decide) ?_
            exact ⟨rfl, rfl, fo, rfl⟩
          have hij : i ≤ j := by
            have : ¬ j < i := fun q => c7 (nI_lt q (by omega))
            omega
          obtain ⟨t, et⟩ := gd_nx_ex (st := st) (o := o) h7 hS (by omega) (fun q => ⟨hz q, so1⟩) (fun a q => (ho a q).2)
          obtain ⟨t1, t2, t3, t4⟩ := gd_nx_some et
          have eb := gd_cf_t t2
          have hS2 := gd_S_lt (τ 1) (by omega) S hS t t1 eb
          refine pj_iconst (q := 199) (v := nI 0) (pj_d p_X12_shelf 109 rfl) rfl (by decide) ?_
          refine pj_ist8 (q := 201) (pj_d p_X12_shelf 110 rfl) rfl (by first | rfl | assumption) ?_
          have wh : ∀ m2 u, t - u < m2 → u ≤ t → pj_V E B l Y_X12_shelf 5 0 0 201 [some (.ref g), some (.int (nI d)), some (.int (nI j)), some (.int (nI (τ 1))), some (.int (nI (gd_so τ st))), some (.int (nI S)), some (.int (gd_lv o)), some (.int (nI i)), some (.int (nI u))] [] (pj_up h (g + 9) (.inl (0, 896, .inl fo))) n 0 0 (gd_sr (gd_sk τ st j) h (g + 9) 896 n) := by
            intro m2
            induction m2 with
            | zero => intro u hi; omega
            | succ m2 ih2 =>
              intro u hu hule
              have uT : u < τ 1 := by omega
              have nx : gd_nP τ st S o u = false → pj_V E B l Y_X12_shelf 5 0 0 252 [some (.ref g), some (.int (nI d)), some (.int (nI j)), some (.int (nI (τ 1))), some (.int (nI (gd_so τ st))), some (.int (nI S)), some (.int (gd_lv o)), some (.int (nI i)), some (.int (nI u))] [] (pj_up h (g + 9) (.inl (0, 896, .inl fo))) n 0 0 (gd_sr (gd_sk τ st j) h (g + 9) 896 n) := by
                intro q
                have une : ¬ u = t := fun z => by
                  rw [z, gd_nP, t2, decide_eq_true t3] at q
                  exact absurd q (by decide)
                refine pj_iinc8 (q := 255) (v := 1) (pj_d p_X12_shelf 140 rfl) rfl (by first | rfl | assumption) (by decide) ?_
                refine pj_goto (t := 201) (pj_d p_X12_shelf 141 rfl) (by decide) ?_
                rw [nI_1]
                exact ih2 (u + 1) (by omega) (by omega)
              refine pj_ild5 (q := 203) (pj_d p_X12_shelf 111 rfl) rfl ?_
              refine pj_ild8 (q := 205) (pj_d p_X12_shelf 112 rfl) rfl ?_
              refine pj_ishr (q := 206) (pj_d p_X12_shelf 113 rfl) rfl ?_
              refine pj_iconst (q := 207) (v := nI 1) (pj_d p_X12_shelf 114 rfl) rfl (by decide) ?_
              refine pj_iand (q := 208) (pj_d p_X12_shelf 115 rfl) rfl ?_
              refine pj_iconst (q := 209) (v := nI 1) (pj_d p_X12_shelf 116 rfl) rfl (by decide) ?_
              rw [gd_shr1 S S128 u (by omega)]
              refine pj_icmp_eq (t := 252) (q := 212) (pj_d p_X12_shelf 117 rfl) rfl (by decide) (fun c8 => ?_) (fun c8 => ?_)
              · have e : S / 2 ^ u % 2 = 1 := (nI_eq (by omega) (by omega)).mp c8
                exact nx (by rw [gd_nP, gd_cf, decide_eq_false (by omega), Bool.false_and, Bool.false_and])
              have ub : S / 2 ^ u % 2 = 0 := by
                have : ¬ S / 2 ^ u % 2 = 1 := fun q => c8 (by rw [q])
                omega
              have hS3 := gd_S_lt (τ 1) (by omega) S hS u uT ub
              have s128 := gd_p128 h7 hS3
              have ix : 7 * (S + 2 ^ u) + u < 896 := by omega
              have yl := gd_ey_lt (st := st) (S := S + 2 ^ u) (a := u) h7
              have look : gd_ul τ st o u = true → pj_V E B l Y_X12_shelf 5 0 0 231 [some (.ref g), some (.int (nI d)), some (.int (nI j)), some (.int (nI (τ 1))), some (.int (nI (gd_so τ st))), some (.int (nI S)), some (.int (gd_lv o)), some (.int (nI i)), some (.int (nI u))] [] (pj_up h (g + 9) (.inl (0, 896, .inl fo))) n 0 0 (gd_sr (gd_sk τ st j) h (g + 9) 896 n) := by
                intro un
                have uc : gd_cf τ st S o u = true := by rw [gd_cf, decide_eq_true ub, un]; rfl
                refine pj_ald0 (q := 232) (pj_d p_X12_shelf 127 rfl) rfl ?_
                refine pj_gf (q := 235) (k := 19) (pj_d p_X12_shelf 128 rfl) rfl kX12_34 (by first | assumption | exact pj_up_s | exact (pj_up_n (by omega)).trans (by assumption)) (by rfl) (by rfl) ?_
                refine pj_bipush (q := 237) (v := nI 7) (pj_d p_X12_shelf 129 rfl) rfl (by decide) ?_
                refine pj_ild5 (q := 239) (pj_d p_X12_shelf 130 rfl) rfl ?_
                refine pj_iconst (q := 240) (v := nI 1) (pj_d p_X12_shelf 131 rfl) rfl (by decide) ?_
                refine pj_ild8 (q := 242) (pj_d p_X12_shelf 132 rfl) rfl ?_
                refine pj_ishl (q := 243) (pj_d p_X12_shelf 133 rfl) rfl ?_
                rw [gd_shl1 u (by omega)]
                refine pj_ior (q := 244) (pj_d p_X12_shelf 134 rfl) rfl ?_
                rw [gd_or3 S S128 u (by omega) ub]
                refine pj_imul (q := 245) (pj_d p_X12_shelf 135 rfl) rfl ?_
                refine pj_ild8 (q := 247) (pj_d p_X12_shelf 136 rfl) rfl ?_
                refine pj_iadd (q := 248) (pj_d p_X12_shelf 137 rfl) rfl ?_
                rw [pk_mul, nI_add]
                refine pj_ialdN (q := 249) (pj_d p_X12_shelf 138 rfl) rfl (by first | assumption | exact pj_up_s | exact (pj_up_n (by omega)).trans (by assumption)) (by rfl) (by first | assumption | omega) (Nat.le_of_ble_eq_true rfl) ?_
                rw [hE (S + 2 ^ u) (by have : 1 ≤ 2 ^ u := Nat.pow_pos (by omega); omega) hS3 u uT (gd_bit_new S S128 u (by omega) ub)]
                refine pj_if_ne (t := 258) (q := 252) (pj_d p_X12_shelf 139 rfl) rfl (by decide) (fun c9 => ?_) (fun c9 => ?_)
                rotate_left
                · have y0 : gd_ey τ st (S + 2 ^ u) u = 0 := (nI_eq (by omega) (by omega)).mp (c9.trans nI_0.symm)
                  exact nx (by rw [gd_nP, decide_eq_false (by omega), Bool.and_false])
                have y0 : ¬ gd_ey τ st (S + 2 ^ u) u = 0 := fun q => c9 (by rw [q]; rfl)
                have ut : u = t := by
                  by_cases z : u = t
                  · exact z
                  · have := t4 u (by omega)
                    rw [gd_nP, uc, decide_eq_true (by omega)] at this
                    exact absurd this (by decide)
                rw [ut]
                refine pj_ild5 (q := 260) (pj_d p_X12_shelf 142 rfl) rfl ?_
                refine pj_iconst (q := 261) (v := nI 1) (pj_d p_X12_shelf 143 rfl) rfl (by decide) ?_
                refine pj_ild8 (q := 263) (pj_d p_X12_shelf 144 rfl) rfl ?_
                refine pj_ishl (q := 264) (pj_d p_X12_shelf 145 rfl) rfl ?_
                rw [gd_shl1 t (by omega)]
                refine pj_ior (q := 265) (pj_d p_X12_shelf 146 rfl) rfl ?_
                rw [gd_or3 S S128 t (by omega) eb]
                refine pj_ist5 (q := 267) (pj_d p_X12_shelf 147 rfl) rfl (by first | rfl | assumption) ?_
                refine pj_ild8 (q := 269) (pj_d p_X12_shelf 148 rfl) rfl ?_
                refine pj_ist6 (q := 271) (pj_d p_X12_shelf 149 rfl) rfl (by first | rfl | assumption) ?_
                refine pj_iinc7 (q := 274) (v := 1) (pj_d p_X12_shelf 150 rfl) rfl (by first | rfl | assumption) (by decide) ?_
                refine pj_goto (t := 192) (pj_d p_X12_shelf 151 rfl) (by decide) ?_
                rw [nI_1]
                exact ih (i + 1) (S + 2 ^ t) (some t) _ (gd_shf_s hq et) hS2 (by rw [gd_bits_add S S128 t (by omega) eb, hb]) (fun a q => by cases q; exact ⟨t1, t3⟩) (fun q => by cases q) (by omega) (by omega)
              refine pj_ild6 (q := 214) (pj_d p_X12_shelf 118 rfl) rfl ?_
              refine pj_ldc (q := 216) (pj_d p_X12_shelf 119 rfl) rfl kX12_90 ?_
              cases o with
              | none =>
                refine pj_icmp_eq (t := 231) (q := 219) (pj_d p_X12_shelf 120 rfl) rfl (by decide) (fun c9 => ?_) (fun c9 => ?_)
                · exact look rfl
                · exact absurd rfl c9
              | some a =>
                obtain ⟨aT, -⟩ := ho a rfl
                refine pj_icmp_eq (t := 231) (q := 219) (pj_d p_X12_shelf 120 rfl) rfl (by decide) (fun c9 => ?_) (fun c9 => ?_)
                · exact absurd c9 (gd_neg (by omega))
                refine pj_ald0 (q := 220) (pj_d p_X12_shelf 121 rfl) rfl ?_
                refine pj_ild8 (q := 222) (pj_d p_X12_shelf 122 rfl) rfl ?_
                refine pj_ild6 (q := 224) (pj_d p_X12_shelf 123 rfl) rfl ?_
                refine pj_ild1 (q := 225) (pj_d p_X12_shelf 124 rfl) rfl ?_
                refine pj_cp (pj_rV (q := 228) (AL _ n hM1 hT1 u a uT aT) (pj_d p_X12_shelf 125 rfl) rfl kX12_198 o_X12_areAlike (by first | assumption | exact pj_up_s | exact (pj_up_n (by omega)).trans (by assumption)) (by rfl) (by rfl) (by rfl) (by rfl) (Nat.le_of_ble_eq_true rfl) (by decide)) (by decide) (by decide) ?_
                refine pj_if_ne (t := 252) (q := 231) (pj_d p_X12_shelf 126 rfl) rfl (by decide) (fun c10 => ?_) (fun c10 => ?_)
                · have e := (gd_b_n _).mp c10
                  exact nx (by rw [gd_nP, gd_cf, gd_ul_c, e, Bool.not_true, Bool.and_false, Bool.false_and])
                · have e := (gd_b_z _).mp c10
                  exact look (by rw [gd_ul_c, e]; rfl)
          exact wh (t + 1) 0 (by omega) (by omega)
      exact loop (j + 2) 0 0 none none rfl (by omega) (by decide) (fun a q => by cases q) (fun _ => rfl) (by omega) (by omega)
    refine pj_iconst (q := 128) (v := nI 0) (pj_d p_X12_shelf 69 rfl) rfl (by decide) ?_
    refine pj_ist5 (q := 130) (pj_d p_X12_shelf 70 rfl) rfl (by first | rfl | assumption) ?_
    have loop : ∀ m t, τ 1 - t < m → t ≤ τ 1 → pj_V E B l Y_X12_shelf 5 0 0 130 [some (.ref g), some (.int (nI d)), some (.int y), some (.int (nI (τ 1))), some (.int (nI ((if τ 1 = 0 then 1 else 0) + gd_sm (fun t => gd_ey τ st (2 ^ t) t) t))), some (.int (nI t)), o6, none, none] [] (pj_up h (g + 9) (.inl (0, 896, .inl fo))) n 0 0 (gd_sr (if y.toInt < 0 then nI (if τ 1 = 0 then 1 else gd_so τ st) else gd_sk τ st y.toNatClampNeg) h (g + 9) 896 n) := by
      intro m
      induction m with
      | zero => intro t hi; omega
      | succ m ih =>
        intro t hi hle
        refine pj_ild5 (q := 132) (pj_d p_X12_shelf 71 rfl) rfl ?_
        refine pj_ild3 (q := 133) (pj_d p_X12_shelf 72 rfl) rfl ?_
        refine pj_icmp_ge (t := 162) (q := 136) (pj_d p_X12_shelf 73 rfl) rfl (by decide) (fun c1 => ?_) (fun c1 => ?_)
        · have he : t = τ 1 := by have := gd_ge c1 (by omega) (by omega); omega
          rw [he, show (if τ 1 = 0 then 1 else 0) + gd_sm (fun t => gd_ey τ st (2 ^ t) t) (τ 1) = (if τ 1 = 0 then 1 else gd_so τ st) by
            by_cases z : τ 1 = 0
            · rw [if_pos z, if_pos z, z]; rfl
            · rw [if_neg z, if_neg z, Nat.zero_add]; rfl]
          exact fin
        have hlt : t < τ 1 := gd_lt c1 (by omega)
        have p1 : 1 ≤ 2 ^ t := Nat.pow_pos (by omega)
        have p2 : 2 ^ t < 2 ^ τ 1 := Nat.pow_lt_pow_right (by omega) hlt
        have p3 := gd_p128 h7 p2
        have ix : 7 * 2 ^ t + t < 896 := by omega
        have bt := gd_bit_new 0 (by omega) t (by omega) (by rw [Nat.zero_div])
        rw [Nat.zero_add] at bt
        refine pj_ild4 (q := 138) (pj_d p_X12_shelf 74 rfl) rfl ?_
        refine pj_ald0 (q := 139) (pj_d p_X12_shelf 75 rfl) rfl ?_
        refine pj_gf (q := 142) (k := 19) (pj_d p_X12_shelf 76 rfl) rfl kX12_34 (by first | assumption | exact pj_up_s | exact (pj_up_n (by omega)).trans (by assumption)) (by rfl) (by rfl) ?_
        refine pj_bipush (q := 144) (v := nI 7) (pj_d p_X12_shelf 77 rfl) rfl (by decide) ?_
        refine pj_iconst (q := 145) (v := nI 1) (pj_d p_X12_shelf 78 rfl) rfl (by decide) ?_
        refine pj_ild5 (q := 147) (pj_d p_X12_shelf 79 rfl) rfl ?_
        refine pj_ishl (q := 148) (pj_d p_X12_shelf 80 rfl) rfl ?_
        rw [gd_shl1 t (by omega)]
        refine pj_imul (q := 149) (pj_d p_X12_shelf 81 rfl) rfl ?_
        refine pj_ild5 (q := 151) (pj_d p_X12_shelf 82 rfl) rfl ?_
        refine pj_iadd (q := 152) (pj_d p_X12_shelf 83 rfl) rfl ?_
        rw [pk_mul, nI_add]
        refine pj_ialdN (q := 153) (pj_d p_X12_shelf 84 rfl) rfl (by first | assumption | exact pj_up_s | exact (pj_up_n (by omega)).trans (by assumption)) (by rfl) (by first | assumption | omega) (Nat.le_of_ble_eq_true rfl) ?_
        rw [hE (2 ^ t) (by omega) p2 t hlt bt]
        refine pj_iadd (q := 154) (pj_d p_X12_shelf 85 rfl) rfl ?_
        rw [nI_add, Nat.add_assoc]
        refine pj_ist4 (q := 156) (pj_d p_X12_shelf 86 rfl) rfl (by first | rfl | assumption) ?_
        refine pj_iinc5 (q := 159) (v := 1) (pj_d p_X12_shelf 87 rfl) rfl (by first | rfl | assumption) (by decide) ?_
        refine pj_goto (t := 130) (pj_d p_X12_shelf 88 rfl) (by decide) ?_
        rw [nI_1]
        exact ih (t + 1) (by omega) (by omega)
    exact loop (τ 1 + 1) 0 (by omega) (by omega)
  have sets : ∀ s fo (o6 : Option Value), s < 2 ^ τ 1 → (∀ S, s < S → S < 2 ^ τ 1 → ∀ a, a < τ 1 → S / 2 ^ a % 2 = 1 → fo (7 * S + a) = nI (gd_ey τ st S a)) → pj_V E B l Y_X12_shelf 5 0 0 64 [some (.ref g), some (.int (nI d)), some (.int y), some (.int (nI (τ 1))), some (.int (nI (if τ 1 = 0 then 1 else 0))), some (.int (nI s)), o6, none, none] [] (pj_up h (g + 9) (.inl (0, 896, .inl fo))) n 0 0 (gd_sr (if y.toInt < 0 then nI (if τ 1 = 0 then 1 else gd_so τ st) else gd_sk τ st y.toNatClampNeg) h (g + 9) 896 n) := by
    intro s
    induction s with
    | zero =>
      intro fo o6 hs hE
      refine pj_ild5 (q := 66) (pj_d p_X12_shelf 36 rfl) rfl ?_
      refine pj_if_le (t := 127) (q := 69) (pj_d p_X12_shelf 37 rfl) rfl (by decide) (fun c1 => ?_) (fun c1 => ?_)
      · exact after fo _ _ hE
      · exact absurd (show nI 0 ≤ 0 by decide) c1
    | succ s ih =>
      intro fo o6 hsl hE
      have s128 : s + 1 < 128 := by omega
      refine pj_ild5 (q := 66) (pj_d p_X12_shelf 36 rfl) rfl ?_
      refine pj_if_le (t := 127) (q := 69) (pj_d p_X12_shelf 37 rfl) rfl (by decide) (fun c1 => ?_) (fun c1 => ?_)
      · have : s + 1 ≤ 0 := (nI_leI (by omega) (by omega)).mp (by rw [nI_0]; exact c1)
        omega
      refine pj_iconst (q := 70) (v := nI 0) (pj_d p_X12_shelf 38 rfl) rfl (by decide) ?_
      refine pj_ist6 (q := 72) (pj_d p_X12_shelf 39 rfl) rfl (by first | rfl | assumption) ?_
      have inner : ∀ m i fo, τ 1 - i < m → i ≤ τ 1 → (∀ S, s + 1 < S → S < 2 ^ τ 1 → ∀ a, a < τ 1 → S / 2 ^ a % 2 = 1 → fo (7 * S + a) = nI (gd_ey τ st S a)) → (∀ a, a < i → (s + 1) / 2 ^ a % 2 = 1 → fo (7 * (s + 1) + a) = nI (gd_ey τ st (s + 1) a)) → pj_V E B l Y_X12_shelf 5 0 0 72 [some (.ref g), some (.int (nI d)), some (.int y), some (.int (nI (τ 1))), some (.int (nI (if τ 1 = 0 then 1 else 0))), some (.int (nI (s + 1))), some (.int (nI i)), none, none] [] (pj_up h (g + 9) (.inl (0, 896, .inl fo))) n 0 0 (gd_sr (if y.toInt < 0 then nI (if τ 1 = 0 then 1 else gd_so τ st) else gd_sk τ st y.toNatClampNeg) h (g + 9) 896 n) := by
        intro m
        induction m with
        | zero => intro i fo hi; omega
        | succ m ih2 =>
          intro i fo hi hle hE hD
          have hM1 : pj_up h (g + 9) (.inl (0, 896, .inl fo)) g = some (.inr (11, gd_Mo g v)) := (pj_up_n (by omega)).trans hM
          have hT1 : pj_up h (g + 9) (.inl (0, 896, .inl fo)) (g + 4) = some (.inl (0, 56, .inl (fun j => nI (τ j)))) := (pj_up_n (by omega)).trans hT
          refine pj_ild6 (q := 74) (pj_d p_X12_shelf 40 rfl) rfl ?_
          refine pj_ild3 (q := 75) (pj_d p_X12_shelf 41 rfl) rfl ?_
          refine pj_icmp_ge (t := 121) (q := 78) (pj_d p_X12_shelf 42 rfl) rfl (by decide) (fun c2 => ?_) (fun c2 => ?_)
          · have he : i = τ 1 := by have := gd_ge c2 (by omega) (by omega); omega
            rw [he] at hD
            refine pj_iinc5 (q := 124) (v := (-1)) (pj_d p_X12_shelf 67 rfl) rfl (by first | rfl | assumption) (by decide) ?_
            refine pj_goto (t := 64) (pj_d p_X12_shelf 68 rfl) (by decide) ?_
            rw [gd_m1]
            refine ih fo _ (by omega) (fun S h1 h2 a h3 h4 => ?_)
            by_cases q : S = s + 1
            · rw [q] at h4 ⊢; exact hD a h3 h4
            · exact hE S (by omega) h2 a h3 h4
          have hlt : i < τ 1 := gd_lt c2 (by omega)
          have ix : 7 * (s + 1) + i < 896 := by omega
          have put : ∀ z, ((s + 1) / 2 ^ i % 2 = 1 → z = gd_ey τ st (s + 1) i) → pj_V E B l Y_X12_shelf 5 0 0 114 [some (.ref g), some (.int (nI d)), some (.int y), some (.int (nI (τ 1))), some (.int (nI (if τ 1 = 0 then 1 else 0))), some (.int (nI (s + 1))), some (.int (nI i)), none, none] [.int (nI z), .int (nI (7 * (s + 1) + i)), .ref (g + 9)] (pj_up h (g + 9) (.inl (0, 896, .inl fo))) n 0 0 (gd_sr (if y.toInt < 0 then nI (if τ 1 = 0 then 1 else gd_so τ st) else gd_sk τ st y.toNatClampNeg) h (g + 9) 896 n) := by
            intro z hz
            refine pj_iast (q := 115) (pj_d p_X12_shelf 64 rfl) rfl (by first | assumption | exact pj_up_s | exact (pj_up_n (by omega)).trans (by assumption)) (by rfl) (by first | assumption | omega) (Nat.le_of_ble_eq_true rfl) ?_
            rw [pj_up_up]
            refine pj_iinc6 (q := 118) (v := 1) (pj_d p_X12_shelf 65 rfl) rfl (by first | rfl | assumption) (by decide) ?_
            refine pj_goto (t := 72) (pj_d p_X12_shelf 66 rfl) (by decide) ?_
            rw [nI_1]
            refine ih2 (i + 1) _ (by omega) (by omega) (fun S h1 h2 a h3 h4 => ?_) (fun a h3 h4 => ?_)
            · rw [gd_upd_n (gd_c4 (by omega) (by omega) (fun q => by omega))]; exact hE S h1 h2 a h3 h4
            · by_cases q : a = i
              · rw [q] at h4 ⊢; rw [gd_upd_s, hz h4]
              · rw [gd_upd_n (gd_c4 (by omega) (by omega) (fun z => q z.2))]; exact hD a (by omega) h4
          refine pj_ald0 (q := 79) (pj_d p_X12_shelf 43 rfl) rfl ?_
          refine pj_gf (q := 82) (k := 19) (pj_d p_X12_shelf 44 rfl) rfl kX12_34 (by first | assumption | exact pj_up_s | exact (pj_up_n (by omega)).trans (by assumption)) (by rfl) (by rfl) ?_
          refine pj_bipush (q := 84) (v := nI 7) (pj_d p_X12_shelf 45 rfl) rfl (by decide) ?_
          refine pj_ild5 (q := 86) (pj_d p_X12_shelf 46 rfl) rfl ?_
          refine pj_imul (q := 87) (pj_d p_X12_shelf 47 rfl) rfl ?_
          refine pj_ild6 (q := 89) (pj_d p_X12_shelf 48 rfl) rfl ?_
          refine pj_iadd (q := 90) (pj_d p_X12_shelf 49 rfl) rfl ?_
          rw [pk_mul, nI_add]
          refine pj_ild5 (q := 92) (pj_d p_X12_shelf 50 rfl) rfl ?_
          refine pj_ild6 (q := 94) (pj_d p_X12_shelf 51 rfl) rfl ?_
          refine pj_ishr (q := 95) (pj_d p_X12_shelf 52 rfl) rfl ?_
          refine pj_iconst (q := 96) (v := nI 1) (pj_d p_X12_shelf 53 rfl) rfl (by decide) ?_
          refine pj_iand (q := 97) (pj_d p_X12_shelf 54 rfl) rfl ?_
          rw [gd_shr1 (s + 1) s128 i (by omega)]
          refine pj_iconst (q := 98) (v := nI 1) (pj_d p_X12_shelf 55 rfl) rfl (by decide) ?_
          refine pj_icmp_ne (t := 113) (q := 101) (pj_d p_X12_shelf 56 rfl) rfl (by decide) (fun c3 => ?_) (fun c3 => ?_)
          · have e : ¬ (s + 1) / 2 ^ i % 2 = 1 := fun q => c3 (by rw [q])
            refine pj_iconst (q := 114) (v := nI 0) (pj_d p_X12_shelf 63 rfl) rfl (by decide) ?_
            exact put 0 (fun q => absurd q e)
          · refine pj_ald0 (q := 102) (pj_d p_X12_shelf 57 rfl) rfl ?_
            refine pj_ild5 (q := 104) (pj_d p_X12_shelf 58 rfl) rfl ?_
            refine pj_ild6 (q := 106) (pj_d p_X12_shelf 59 rfl) rfl ?_
            refine pj_ild1 (q := 107) (pj_d p_X12_shelf 60 rfl) rfl ?_
            refine pj_cp (pj_rV (q := 110) (FO _ n fo hM1 hT1 pj_up_s (s + 1) i hsl hlt (fun t ht hb => hE _ (by have : 1 ≤ 2 ^ t := Nat.pow_pos (by omega); omega) (gd_S_lt (τ 1) (by omega) (s + 1) hsl t ht hb) t ht (gd_bit_new (s + 1) s128 t (by omega) hb))) (pj_d p_X12_shelf 61 rfl) rfl kX12_216 o_X12_follow (by first | assumption | exact pj_up_s | exact (pj_up_n (by omega)).trans (by assumption)) (by rfl) (by rfl) (by rfl) (by rfl) (Nat.le_of_ble_eq_true rfl) (by decide)) (by decide) (by decide) ?_
            refine pj_goto (t := 114) (pj_d p_X12_shelf 62 rfl) (by decide) ?_
            exact put _ (fun _ => rfl)
      exact inner (τ 1 + 1) 0 fo (by omega) (by omega) hE (fun a h3 => absurd h3 (Nat.not_lt_zero a))
  have start : ∀ z, z = (if τ 1 = 0 then 1 else 0) → pj_V E B l Y_X12_shelf 5 0 0 55 [some (.ref g), some (.int (nI d)), some (.int y), some (.int (nI (τ 1))), none, none, none, none, none] [.int (nI z)] h n 0 0 (gd_sr (if y.toInt < 0 then nI (if τ 1 = 0 then 1 else gd_so τ st) else gd_sk τ st y.toNatClampNeg) h (g + 9) 896 n) := by
    intro z hz
    rw [hz]
    refine pj_ist4 (q := 57) (pj_d p_X12_shelf 29 rfl) rfl (by first | rfl | assumption) ?_
    refine pj_iconst (q := 58) (v := nI 1) (pj_d p_X12_shelf 30 rfl) rfl (by decide) ?_
    refine pj_ild3 (q := 59) (pj_d p_X12_shelf 31 rfl) rfl ?_
    refine pj_ishl (q := 60) (pj_d p_X12_shelf 32 rfl) rfl ?_
    rw [gd_shl1 (τ 1) (by omega)]
    refine pj_iconst (q := 61) (v := nI 1) (pj_d p_X12_shelf 33 rfl) rfl (by decide) ?_
    refine pj_isub (q := 62) (pj_d p_X12_shelf 34 rfl) rfl ?_
    rw [gd_sub pw]
    refine pj_ist5 (q := 64) (pj_d p_X12_shelf 35 rfl) rfl (by first | rfl | assumption) ?_
    have := sets (2 ^ τ 1 - 1) f9 none (by omega) (fun S h1 h2 => by omega)
    rw [pj_up_id h9] at this
    exact this
  refine pj_ald0 (q := 40) (pj_d p_X12_shelf 19 rfl) rfl ?_
  refine pj_gf (q := 43) (k := 5) (pj_d p_X12_shelf 20 rfl) rfl kX12_19 (by first | assumption | exact pj_up_s | exact (pj_up_n (by omega)).trans (by assumption)) (by rfl) (by rfl) ?_
  refine pj_iconst (q := 44) (v := nI 1) (pj_d p_X12_shelf 21 rfl) rfl (by decide) ?_
  refine pj_ialdN (q := 45) (pj_d p_X12_shelf 22 rfl) rfl (by first | assumption | exact pj_up_s | exact (pj_up_n (by omega)).trans (by assumption)) (by rfl) (by first | assumption | omega) (Nat.le_of_ble_eq_true rfl) ?_
  refine pj_ist3 (q := 46) (pj_d p_X12_shelf 23 rfl) rfl (by first | rfl | assumption) ?_
  refine pj_ild3 (q := 47) (pj_d p_X12_shelf 24 rfl) rfl ?_
  refine pj_if_ne (t := 54) (q := 50) (pj_d p_X12_shelf 25 rfl) rfl (by decide) (fun c4 => ?_) (fun c4 => ?_)
  · have : ¬ τ 1 = 0 := fun q => c4 (by rw [q]; rfl)
    refine pj_iconst (q := 55) (v := nI 0) (pj_d p_X12_shelf 28 rfl) rfl (by decide) ?_
    exact start 0 (by rw [if_neg this])
  · have : τ 1 = 0 := (nI_eq (by omega) (by omega)).mp (c4.trans nI_0.symm)
    refine pj_iconst (q := 51) (v := nI 1) (pj_d p_X12_shelf 26 rfl) rfl (by decide) ?_
    refine pj_goto (t := 55) (pj_d p_X12_shelf 27 rfl) (by decide) ?_
    exact start 1 (by rw [if_pos this])
end
