/-! ===== the model's tokens ===== -/
def gd_tok (c : Nat → Nat) (L p : Nat) : Nat := if p < L then (if 97 ≤ c p ∧ c p ≤ 122 then 2 else if gd_dg (c p) = true then (if gd_fg c L p ≤ 2 then 3 else 0) else if c p = 44 ∨ c p = 59 then 4 else 0) else 1
def gd_tv (c : Nat → Nat) (L p : Nat) : Int32 := if p < L then (if gd_dg (c p) = true then nI (gd_nv c p (gd_fg c L p)) else nI (c p)) else -1000000
def gd_cu (c : Nat → Nat) (L p : Nat) : Nat := if p < L then (if gd_dg (c p) = true then p + gd_fg c L p else p + 1) else p
theorem gd_dg_iff {x : Nat} : gd_dg x = true ↔ 48 ≤ x ∧ x ≤ 57 := by rw [gd_dg, decide_eq_true_eq]
theorem gd_fg_pos {c : Nat → Nat} {L p : Nat} (hp : p < L) (hd : gd_dg (c p) = true) : 1 ≤ gd_fg c L p := by
  rw [gd_fg, show L - p = (L - p - 1) + 1 by omega, gd_fgn, if_pos ⟨hp, hd⟩]
  omega
theorem gd_cu_le {c : Nat → Nat} {L p : Nat} (hp : p ≤ L) : gd_cu c L p ≤ L := by
  have := gd_fg_le (c := c) (L := L) (p := p)
  rw [gd_cu]
  split
  · split <;> omega
  · exact hp
theorem gd_tok4 {c : Nat → Nat} {L p x : Nat} (hc : ∀ j, c j < 256) (hx : x = 44 ∨ x = 59) : (gd_tok c L p = 4 ∧ gd_tv c L p = nI x) ↔ (p < L ∧ c p = x) := by
  have hcp := hc p
  rw [gd_tok, gd_tv]
  by_cases e : p < L
  · rw [if_pos e, if_pos e]
    by_cases e1 : 97 ≤ c p ∧ c p ≤ 122
    · rw [if_pos e1]
      exact ⟨fun q => absurd q.1 (by decide), fun q => by omega⟩
    · rw [if_neg e1]
      by_cases e2 : gd_dg (c p) = true
      · rw [if_pos e2, if_pos e2]
        have := gd_dg_iff.mp e2
        refine ⟨fun q => ?_, fun q => by omega⟩
        have q1 := q.1
        split at q1
        · exact absurd q1 (by decide)
        · exact absurd q1 (by decide)
      · rw [if_neg e2, if_neg e2]
        by_cases e3 : c p = 44 ∨ c p = 59
        · rw [if_pos e3]
          exact ⟨fun q => ⟨e, (nI_eq (by omega) (by omega)).mp q.2⟩, fun q => ⟨rfl, by rw [q.2]⟩⟩
        · rw [if_neg e3]
          exact ⟨fun q => absurd q.1 (by decide), fun q => absurd (by rw [q.2]; exact hx) e3⟩
  · rw [if_neg e, if_neg e]
    exact ⟨fun q => absurd q.1 (by decide), fun q => absurd q.1 e⟩
theorem gd_tok2 {c : Nat → Nat} {L p : Nat} : gd_tok c L p = 2 ↔ (p < L ∧ 97 ≤ c p ∧ c p ≤ 122) := by
  rw [gd_tok]
  by_cases e : p < L
  · rw [if_pos e]
    by_cases e1 : 97 ≤ c p ∧ c p ≤ 122
    · rw [if_pos e1]
      exact ⟨fun _ => ⟨e, e1⟩, fun _ => rfl⟩
    · rw [if_neg e1]
      refine ⟨fun q => ?_, fun q => absurd q.2 e1⟩
      split at q
      · split at q <;> exact absurd q (by decide)
      · split at q <;> exact absurd q (by decide)
  · rw [if_neg e]
    exact ⟨fun q => absurd q (by decide), fun q => absurd q.1 e⟩
theorem gd_tv2 {c : Nat → Nat} {L p : Nat} (h : gd_tok c L p = 2) : gd_tv c L p = nI (c p) := by
  obtain ⟨h1, h2⟩ := gd_tok2.mp h
  rw [gd_tv, if_pos h1, if_neg (fun q => by have := gd_dg_iff.mp q; omega)]
theorem gd_tok1 {c : Nat → Nat} {L p : Nat} : gd_tok c L p = 1 ↔ ¬ p < L := by
  rw [gd_tok]
  by_cases e : p < L
  · rw [if_pos e]
    refine ⟨fun q => ?_, fun q => absurd e q⟩
    split at q
    · exact absurd q (by decide)
    · split at q
      · split at q <;> exact absurd q (by decide)
      · split at q <;> exact absurd q (by decide)
  · rw [if_neg e]
    exact ⟨fun _ => e, fun _ => rfl⟩
theorem gd_tok3 {c : Nat → Nat} {L p : Nat} : gd_tok c L p = 3 ↔ (gd_fg c L p = 1 ∨ gd_fg c L p = 2) := by
  rw [gd_tok]
  by_cases e : p < L
  · rw [if_pos e]
    by_cases e2 : gd_dg (c p) = true
    · have := gd_dg_iff.mp e2
      have := gd_fg_pos e e2
      rw [if_neg (show ¬ (97 ≤ c p ∧ c p ≤ 122) by omega), if_pos e2]
      by_cases e4 : gd_fg c L p ≤ 2
      · rw [if_pos e4]
        exact ⟨fun _ => by omega, fun _ => rfl⟩
      · rw [if_neg e4]
        exact ⟨fun q => absurd q (by decide), fun q => by omega⟩
    · have hz : ¬ (gd_fg c L p = 1 ∨ gd_fg c L p = 2) := fun q => by
        have := gd_fg_in (c := c) (L := L) (p := p) (i := 0) (by omega)
        exact e2 this.2
      refine ⟨fun q => ?_, fun q => absurd q hz⟩
      rw [if_neg e2] at q
      split at q
      · exact absurd q (by decide)
      · split at q <;> exact absurd q (by decide)
  · rw [if_neg e]
    refine ⟨fun q => absurd q (by decide), fun q => ?_⟩
    have := gd_fg_in (c := c) (L := L) (p := p) (i := 0) (by omega)
    omega
theorem gd_tok_lt {c : Nat → Nat} {L p : Nat} : gd_tok c L p < 5 := by
  rw [gd_tok]
  split
  · split
    · omega
    · split
      · split <;> omega
      · split <;> omega
  · omega
theorem gd_tvcu3 {c : Nat → Nat} {L p : Nat} (h : gd_fg c L p = 1 ∨ gd_fg c L p = 2) : gd_tv c L p = nI (gd_nv c p (gd_fg c L p)) ∧ gd_cu c L p = p + gd_fg c L p := by
  have := gd_fg_in (c := c) (L := L) (p := p) (i := 0) (by omega)
  rw [Nat.add_zero] at this
  rw [gd_tv, gd_cu, if_pos this.1, if_pos this.1, if_pos this.2, if_pos this.2]
  exact ⟨rfl, rfl⟩
def gd_FS (v0 v : Nat → Int32) (L : Nat) (a b t x : Int32) : Prop := (∀ i, i < 11 ∨ 14 < i → v i = v0 i) ∧ v 10 = nI L ∧ v 11 = a ∧ v 12 = b ∧ v 13 = t ∧ v 14 = x
theorem gd_FS.s11 {v0 v : Nat → Int32} {L : Nat} {a b t x : Int32} (h : gd_FS v0 v L a b t x) (y : Int32) : gd_FS v0 (upd v 11 y) L y b t x := ⟨fun i hi => by rw [gd_upd_n (by omega)]; exact h.1 i hi, by rw [gd_upd_n (by omega)]; exact h.2.1, gd_upd_s, by rw [gd_upd_n (by omega)]; exact h.2.2.2.1, by rw [gd_upd_n (by omega)]; exact h.2.2.2.2.1, by rw [gd_upd_n (by omega)]; exact h.2.2.2.2.2⟩
theorem gd_FS.s12 {v0 v : Nat → Int32} {L : Nat} {a b t x : Int32} (h : gd_FS v0 v L a b t x) (y : Int32) : gd_FS v0 (upd v 12 y) L a y t x := ⟨fun i hi => by rw [gd_upd_n (by omega)]; exact h.1 i hi, by rw [gd_upd_n (by omega)]; exact h.2.1, by rw [gd_upd_n (by omega)]; exact h.2.2.1, gd_upd_s, by rw [gd_upd_n (by omega)]; exact h.2.2.2.2.1, by rw [gd_upd_n (by omega)]; exact h.2.2.2.2.2⟩
theorem gd_FS.s13 {v0 v : Nat → Int32} {L : Nat} {a b t x : Int32} (h : gd_FS v0 v L a b t x) (y : Int32) : gd_FS v0 (upd v 13 y) L a b y x := ⟨fun i hi => by rw [gd_upd_n (by omega)]; exact h.1 i hi, by rw [gd_upd_n (by omega)]; exact h.2.1, by rw [gd_upd_n (by omega)]; exact h.2.2.1, by rw [gd_upd_n (by omega)]; exact h.2.2.2.1, gd_upd_s, by rw [gd_upd_n (by omega)]; exact h.2.2.2.2.2⟩
theorem gd_FS.s14 {v0 v : Nat → Int32} {L : Nat} {a b t x : Int32} (h : gd_FS v0 v L a b t x) (y : Int32) : gd_FS v0 (upd v 14 y) L a b t y := ⟨fun i hi => by rw [gd_upd_n (by omega)]; exact h.1 i hi, by rw [gd_upd_n (by omega)]; exact h.2.1, by rw [gd_upd_n (by omega)]; exact h.2.2.1, by rw [gd_upd_n (by omega)]; exact h.2.2.2.1, by rw [gd_upd_n (by omega)]; exact h.2.2.2.2.1, gd_upd_s⟩
/-- a token was read at p -/
def gd_NT (c : Nat → Nat) (L p : Nat) (v : Nat → Int32) (h : pj_H) (g n : Nat) : Option Value → pj_H → Nat → Prop := fun r h' n' => r = none ∧ n' = n ∧ ∃ v', h' = pj_up h g (.inr (11, gd_Mo g v')) ∧ gd_FS v v' L (nI (gd_cu c L p)) (nI p) (nI (gd_tok c L p)) (gd_tv c L p)
def gd_pv (v v' : Nat → Int32) : Prop := ∀ i, i < 11 ∨ 16 < i → v' i = v i
/-- how the reader of the model stands -/
def gd_MS (c : Nat → Nat) (L : Nat) (v : Nat → Int32) (S : gd_PS) : Prop := v 10 = nI L ∧ v 15 = nI S.2.1 ∧ (S.2.1 = 0 → v 11 = nI (gd_cu c L S.1) ∧ v 12 = nI S.1 ∧ v 13 = nI (gd_tok c L S.1) ∧ v 14 = gd_tv c L S.1) ∧ (¬ S.2.1 = 0 → v 16 = nI S.2.2)
def gd_MU (c : Nat → Nat) (L : Nat) (S' : gd_PS) (v : Nat → Int32) (h : pj_H) (g n : Nat) : Option Value → pj_H → Nat → Prop := fun r h' n' => r = none ∧ n' = n ∧ ∃ v', h' = pj_up h g (.inr (11, gd_Mo g v')) ∧ gd_pv v v' ∧ gd_MS c L v' S'
def gd_mu (c : Nat → Nat) (L : Nat) (b : Bool) (S : gd_PS) : gd_PS := if b = true then (if S.2.1 = 0 then (gd_cu c L S.1, S.2) else S) else gd_fa S S.1 1
section
variable {E : pj_E} {B : Nat} {l : Launch} {h : pj_H} {n g L : Nat} {c : Nat → Nat} {v : Nat → Int32} {S : gd_PS}
theorem gd_nt_C (hM : h g = some (.inr (11, gd_Mo g v))) (hb : h (g + 7) = some (.inl (0, 120, .inl (fun j => nI (c j))))) (hL : L ≤ 120) (hc : ∀ j, c j < 256) {p : Nat} (hp : p ≤ L) : ∀ v3 tk, gd_FS v v3 L (nI p) (nI p) (nI tk) (gd_tv c L p) → tk ≠ 3 → tk < 5 → tk = gd_tok c L p → (gd_cu c L p = if p < L then p + 1 else p) → pj_V E B l Y_X12_nextToken 2 0 0 121 [some (.ref g)] [] (pj_up h g (.inr (11, gd_Mo g v3))) n 0 0 (gd_NT c L p v h g n) := by
  intro v3 tk K3 t3 t5 te hcu
  subst te
  have fin : ∀ y, y = gd_cu c L p → pj_V E B l Y_X12_nextToken 2 0 0 143 [some (.ref g)] [.int (nI y), .ref g] (pj_up h g (.inr (11, gd_Mo g v3))) n 0 0 (gd_NT c L p v h g n) := by
    intro y hy
    subst hy
    refine pj_pf (q := 146) (k := 11) (fs' := gd_Mo g (upd v3 11 (nI (gd_cu c L p)))) (pj_d p_X12_nextToken 68 rfl) rfl kX12_87 (by first | assumption | exact pj_up_s | exact (pj_up_n (by omega)).trans (by assumption)) (by rfl) (Or.inl rfl) (by rfl) (by rfl) (by rfl) (by show 11 < 24; decide) (by rfl) ?_
    rw [pj_up_up]
    have K4 := K3.s11 (nI (gd_cu c L p))
    generalize upd v3 11 (nI (gd_cu c L p)) = v4 at K4 ⊢
    refine pj_ald0 (q := 147) (pj_d p_X12_nextToken 69 rfl) rfl ?_
    refine pj_gf (q := 150) (k := 13) (pj_d p_X12_nextToken 70 rfl) rfl kX12_102 (by first | assumption | exact pj_up_s | exact (pj_up_n (by omega)).trans (by assumption)) (by rfl) (by rfl) ?_
    rw [K4.2.2.2.2.1]
    refine pj_iconst (q := 151) (v := nI 3) (pj_d p_X12_nextToken 71 rfl) rfl (by decide) ?_
    refine pj_icmp_ne (t := 277) (q := 154) (pj_d p_X12_nextToken 72 rfl) rfl (by decide) (fun c2 => ?_) (fun c2 => ?_)
    · refine pj_vret rfl (pj_d p_X12_nextToken 137 rfl) (by decide) (by decide) ?_
      exact ⟨rfl, rfl, v4, rfl, K4⟩
    · exact absurd ((nI_eq (by omega) (by omega)).mp c2) t3
  refine pj_ald0 (q := 122) (pj_d p_X12_nextToken 56 rfl) rfl ?_
  refine pj_dup (q := 123) (pj_d p_X12_nextToken 57 rfl) rfl rfl ?_
  refine pj_gf (q := 126) (k := 11) (pj_d p_X12_nextToken 58 rfl) rfl kX12_87 (by first | assumption | exact pj_up_s | exact (pj_up_n (by omega)).trans (by assumption)) (by rfl) (by rfl) ?_
  refine pj_ald0 (q := 127) (pj_d p_X12_nextToken 59 rfl) rfl ?_
  refine pj_gf (q := 130) (k := 11) (pj_d p_X12_nextToken 60 rfl) rfl kX12_87 (by first | assumption | exact pj_up_s | exact (pj_up_n (by omega)).trans (by assumption)) (by rfl) (by rfl) ?_
  refine pj_ald0 (q := 131) (pj_d p_X12_nextToken 61 rfl) rfl ?_
  refine pj_gf (q := 134) (k := 10) (pj_d p_X12_nextToken 62 rfl) rfl kX12_74 (by first | assumption | exact pj_up_s | exact (pj_up_n (by omega)).trans (by assumption)) (by rfl) (by rfl) ?_
  rw [K3.2.2.1, K3.2.1]
  refine pj_icmp_ge (t := 141) (q := 137) (pj_d p_X12_nextToken 63 rfl) rfl (by decide) (fun c1 => ?_) (fun c1 => ?_)
  · have := gd_ge c1 (by omega) (by omega)
    refine pj_iconst (q := 142) (v := nI 0) (pj_d p_X12_nextToken 66 rfl) rfl (by decide) ?_
    refine pj_iadd (q := 143) (pj_d p_X12_nextToken 67 rfl) rfl ?_
    rw [nI_add]
    exact fin _ (by rw [hcu, if_neg (by omega)]; rfl)
  · have := gd_lt c1 (by omega)
    refine pj_iconst (q := 138) (v := nI 1) (pj_d p_X12_nextToken 64 rfl) rfl (by decide) ?_
    refine pj_goto (t := 142) (pj_d p_X12_nextToken 65 rfl) (by decide) ?_
    refine pj_iadd (q := 143) (pj_d p_X12_nextToken 67 rfl) rfl ?_
    rw [nI_add]
    exact fin _ (by rw [hcu, if_pos (by omega)])
theorem gd_nt_T (hM : h g = some (.inr (11, gd_Mo g v))) (hb : h (g + 7) = some (.inl (0, 120, .inl (fun j => nI (c j))))) (hL : L ≤ 120) (hc : ∀ j, c j < 256) {p : Nat} (hp : p ≤ L) : ∀ v3 tk (t0 : Int32), gd_FS v v3 L (nI p) (nI p) t0 (gd_tv c L p) → tk ≠ 3 → tk < 5 → tk = gd_tok c L p → (gd_cu c L p = if p < L then p + 1 else p) → pj_V E B l Y_X12_nextToken 2 0 0 118 [some (.ref g)] [.int (nI tk), .ref g] (pj_up h g (.inr (11, gd_Mo g v3))) n 0 0 (gd_NT c L p v h g n) := by
  intro v3 tk t0 K3 t3 t5 te hcu
  refine pj_pf (q := 121) (k := 13) (fs' := gd_Mo g (upd v3 13 (nI tk))) (pj_d p_X12_nextToken 55 rfl) rfl kX12_102 (by first | assumption | exact pj_up_s | exact (pj_up_n (by omega)).trans (by assumption)) (by rfl) (Or.inl rfl) (by rfl) (by rfl) (by rfl) (by show 13 < 24; decide) (by rfl) ?_
  rw [pj_up_up]
  have K4 := K3.s13 (nI tk)
  generalize upd v3 13 (nI tk) = v4 at K4 ⊢
  exact gd_nt_C hM hb hL hc hp v4 tk K4 t3 t5 te hcu
theorem gd_nt_L (hM : h g = some (.inr (11, gd_Mo g v))) (hb : h (g + 7) = some (.inl (0, 120, .inl (fun j => nI (c j))))) (hL : L ≤ 120) (hc : ∀ j, c j < 256) {p : Nat} (hp : p ≤ L) : ∀ m i v3 (t0 : Int32), p < L → gd_dg (c p) = true → gd_fg c L p - i < m → 1 ≤ i → i ≤ gd_fg c L p → gd_FS v v3 L (nI (p + i)) (nI p) t0 (nI (gd_nv c p i)) → pj_V E B l Y_X12_nextToken 2 0 0 165 [some (.ref g)] [] (pj_up h g (.inr (11, gd_Mo g v3))) n 0 0 (gd_NT c L p v h g n) := by
  have hcp := hc p
  intro m
  induction m with
  | zero => intro i v3 t0 _ _ hi; omega
  | succ m ih =>
    intro i v3 t0 pL pd hi h1 hle K3
    have fle := gd_fg_le (c := c) (L := L) (p := p)
    have dd := gd_dg_iff.mp pd
    have stop : i = gd_fg c L p → pj_V E B l Y_X12_nextToken 2 0 0 255 [some (.ref g)] [] (pj_up h g (.inr (11, gd_Mo g v3))) n 0 0 (gd_NT c L p v h g n) := by
      intro he
      have tl : ∀ y, y = gd_tok c L p → pj_V E B l Y_X12_nextToken 2 0 0 274 [some (.ref g)] [.int (nI y), .ref g] (pj_up h g (.inr (11, gd_Mo g v3))) n 0 0 (gd_NT c L p v h g n) := by
        intro y hy
        subst hy
        refine pj_pf (q := 277) (k := 13) (fs' := gd_Mo g (upd v3 13 (nI (gd_tok c L p)))) (pj_d p_X12_nextToken 136 rfl) rfl kX12_102 (by first | assumption | exact pj_up_s | exact (pj_up_n (by omega)).trans (by assumption)) (by rfl) (Or.inl rfl) (by rfl) (by rfl) (by rfl) (by show 13 < 24; decide) (by rfl) ?_
        rw [pj_up_up]
        have K4 := K3.s13 (nI (gd_tok c L p))
        generalize upd v3 13 (nI (gd_tok c L p)) = v4 at K4 ⊢
        refine pj_vret rfl (pj_d p_X12_nextToken 137 rfl) (by decide) (by decide) ?_
        refine ⟨rfl, rfl, v4, rfl, ?_⟩
        have e1 : gd_cu c L p = p + i := by rw [gd_cu, if_pos pL, if_pos pd, he]
        have e2 : gd_tv c L p = nI (gd_nv c p i) := by rw [gd_tv, if_pos pL, if_pos pd, he]
        rw [e1, e2]
        exact K4
      have et : gd_tok c L p = if i ≤ 2 then 3 else 0 := by
        rw [gd_tok, if_pos pL, if_neg (show ¬ (97 ≤ c p ∧ c p ≤ 122) by omega), if_pos pd, he]
      refine pj_ald0 (q := 256) (pj_d p_X12_nextToken 125 rfl) rfl ?_
      refine pj_ald0 (q := 257) (pj_d p_X12_nextToken 126 rfl) rfl ?_
      refine pj_gf (q := 260) (k := 11) (pj_d p_X12_nextToken 127 rfl) rfl kX12_87 (by first | assumption | exact pj_up_s | exact (pj_up_n (by omega)).trans (by assumption)) (by rfl) (by rfl) ?_
      refine pj_ald0 (q := 261) (pj_d p_X12_nextToken 128 rfl) rfl ?_
      refine pj_gf (q := 264) (k := 12) (pj_d p_X12_nextToken 129 rfl) rfl kX12_81 (by first | assumption | exact pj_up_s | exact (pj_up_n (by omega)).trans (by assumption)) (by rfl) (by rfl) ?_
      rw [K3.2.2.1, K3.2.2.2.1]
      refine pj_isub (q := 265) (pj_d p_X12_nextToken 130 rfl) rfl ?_
      rw [gd_sub (by omega), show p + i - p = i by omega]
      refine pj_iconst (q := 266) (v := nI 2) (pj_d p_X12_nextToken 131 rfl) rfl (by decide) ?_
      refine pj_icmp_le (t := 273) (q := 269) (pj_d p_X12_nextToken 132 rfl) rfl (by decide) (fun c3 => ?_) (fun c3 => ?_)
      · have := (nI_leI (by omega) (by omega)).mp c3
        refine pj_iconst (q := 274) (v := nI 3) (pj_d p_X12_nextToken 135 rfl) rfl (by decide) ?_
        exact tl 3 (by rw [et, if_pos this])
      · have : ¬ i ≤ 2 := fun q => c3 (nI_le q (by omega))
        refine pj_iconst (q := 270) (v := nI 0) (pj_d p_X12_nextToken 133 rfl) rfl (by decide) ?_
        refine pj_goto (t := 274) (pj_d p_X12_nextToken 134 rfl) (by decide) ?_
        exact tl 0 (by rw [et, if_neg this])
    refine pj_ald0 (q := 166) (pj_d p_X12_nextToken 79 rfl) rfl ?_
    refine pj_gf (q := 169) (k := 11) (pj_d p_X12_nextToken 80 rfl) rfl kX12_87 (by first | assumption | exact pj_up_s | exact (pj_up_n (by omega)).trans (by assumption)) (by rfl) (by rfl) ?_
    refine pj_ald0 (q := 170) (pj_d p_X12_nextToken 81 rfl) rfl ?_
    refine pj_gf (q := 173) (k := 10) (pj_d p_X12_nextToken 82 rfl) rfl kX12_74 (by first | assumption | exact pj_up_s | exact (pj_up_n (by omega)).trans (by assumption)) (by rfl) (by rfl) ?_
    rw [K3.2.2.1, K3.2.1]
    refine pj_icmp_ge (t := 255) (q := 176) (pj_d p_X12_nextToken 83 rfl) rfl (by decide) (fun c1 => ?_) (fun c1 => ?_)
    · have := gd_ge c1 (by omega) (by omega)
      exact stop (by omega)
    have iL := gd_lt c1 (by omega)
    have i120 : p + i < 120 := by omega
    have hci := hc (p + i)
    refine pj_ald0 (q := 177) (pj_d p_X12_nextToken 84 rfl) rfl ?_
    refine pj_gf (q := 180) (k := 9) (pj_d p_X12_nextToken 85 rfl) rfl kX12_28 (by first | assumption | exact pj_up_s | exact (pj_up_n (by omega)).trans (by assumption)) (by rfl) (by rfl) ?_
    refine pj_ald0 (q := 181) (pj_d p_X12_nextToken 86 rfl) rfl ?_
    refine pj_gf (q := 184) (k := 11) (pj_d p_X12_nextToken 87 rfl) rfl kX12_87 (by first | assumption | exact pj_up_s | exact (pj_up_n (by omega)).trans (by assumption)) (by rfl) (by rfl) ?_
    rw [K3.2.2.1]
    refine pj_ialdN (q := 185) (pj_d p_X12_nextToken 88 rfl) rfl (by first | assumption | exact pj_up_s | exact (pj_up_n (by omega)).trans (by assumption)) (by rfl) (by first | assumption | omega) (Nat.le_of_ble_eq_true rfl) ?_
    refine pj_i2l (q := 186) (pj_d p_X12_nextToken 89 rfl) rfl ?_
    refine pj_ldc2 (q := 189) (pj_d p_X12_nextToken 90 rfl) rfl kX12_98 ?_
    refine pj_ldc2 (q := 192) (pj_d p_X12_nextToken 91 rfl) rfl kX12_100 ?_
    refine pj_cp (pj_rS (q := 195) (c_X12_in (nI (c (p + i))) 48 57 48 57 (by decide) (by decide)) (pj_d p_X12_nextToken 92 rfl) rfl kX12_57 o_X12_in (by rfl) (by rfl) (Nat.le_of_ble_eq_true rfl) (by decide)) (by decide) (by decide) ?_
    rw [gd_dgI hci]
    refine pj_if_eq (t := 255) (q := 198) (pj_d p_X12_nextToken 93 rfl) rfl (by decide) (fun c2 => ?_) (fun c2 => ?_)
    · have e := (gd_b_z _).mp c2
      refine stop ?_
      by_cases q : i < gd_fg c L p
      · have := (gd_fg_in q).2
        rw [e] at this
        exact absurd this (by decide)
      · omega
    have e := (gd_b_n _).mp c2
    have de := gd_dg_iff.mp e
    have ilt : i < gd_fg c L p := by
      rcases Nat.lt_or_ge i (gd_fg c L p) with q | q
      · exact q
      · have out := gd_fg_out (c := c) (L := L) (p := p)
        rw [show gd_fg c L p = i by omega] at out
        exact absurd ⟨iL, e⟩ out
    have go : ∀ y, y = gd_nv c p (i + 1) → pj_V E B l Y_X12_nextToken 2 0 0 239 [some (.ref g)] [.int (nI y), .ref g] (pj_up h g (.inr (11, gd_Mo g v3))) n 0 0 (gd_NT c L p v h g n) := by
      intro y hy
      subst hy
      refine pj_pf (q := 242) (k := 14) (fs' := gd_Mo g (upd v3 14 (nI (gd_nv c p (i + 1))))) (pj_d p_X12_nextToken 117 rfl) rfl kX12_91 (by first | assumption | exact pj_up_s | exact (pj_up_n (by omega)).trans (by assumption)) (by rfl) (Or.inl rfl) (by rfl) (by rfl) (by rfl) (by show 14 < 24; decide) (by rfl) ?_
      rw [pj_up_up]
      have K4 := K3.s14 (nI (gd_nv c p (i + 1)))
      generalize upd v3 14 (nI (gd_nv c p (i + 1))) = v4 at K4 ⊢
      refine pj_ald0 (q := 243) (pj_d p_X12_nextToken 118 rfl) rfl ?_
      refine pj_dup (q := 244) (pj_d p_X12_nextToken 119 rfl) rfl rfl ?_
      refine pj_gf (q := 247) (k := 11) (pj_d p_X12_nextToken 120 rfl) rfl kX12_87 (by first | assumption | exact pj_up_s | exact (pj_up_n (by omega)).trans (by assumption)) (by rfl) (by rfl) ?_
      rw [K4.2.2.1]
      refine pj_iconst (q := 248) (v := nI 1) (pj_d p_X12_nextToken 121 rfl) rfl (by decide) ?_
      refine pj_iadd (q := 249) (pj_d p_X12_nextToken 122 rfl) rfl ?_
      rw [nI_add]
      refine pj_pf (q := 252) (k := 11) (fs' := gd_Mo g (upd v4 11 (nI (p + i + 1)))) (pj_d p_X12_nextToken 123 rfl) rfl kX12_87 (by first | assumption | exact pj_up_s | exact (pj_up_n (by omega)).trans (by assumption)) (by rfl) (Or.inl rfl) (by rfl) (by rfl) (by rfl) (by show 11 < 24; decide) (by rfl) ?_
      rw [pj_up_up]
      have K5 := K4.s11 (nI (p + i + 1))
      generalize upd v4 11 (nI (p + i + 1)) = v5 at K5 ⊢
      refine pj_goto (t := 165) (pj_d p_X12_nextToken 124 rfl) (by decide) ?_
      exact ih (i + 1) v5 t0 pL pd (by omega) (by omega) (by omega) K5
    refine pj_ald0 (q := 199) (pj_d p_X12_nextToken 94 rfl) rfl ?_
    refine pj_ald0 (q := 200) (pj_d p_X12_nextToken 95 rfl) rfl ?_
    refine pj_gf (q := 203) (k := 11) (pj_d p_X12_nextToken 96 rfl) rfl kX12_87 (by first | assumption | exact pj_up_s | exact (pj_up_n (by omega)).trans (by assumption)) (by rfl) (by rfl) ?_
    refine pj_ald0 (q := 204) (pj_d p_X12_nextToken 97 rfl) rfl ?_
    refine pj_gf (q := 207) (k := 12) (pj_d p_X12_nextToken 98 rfl) rfl kX12_81 (by first | assumption | exact pj_up_s | exact (pj_up_n (by omega)).trans (by assumption)) (by rfl) (by rfl) ?_
    rw [K3.2.2.1, K3.2.2.2.1]
    refine pj_isub (q := 208) (pj_d p_X12_nextToken 99 rfl) rfl ?_
    rw [gd_sub (by omega), show p + i - p = i by omega]
    refine pj_iconst (q := 209) (v := nI 2) (pj_d p_X12_nextToken 100 rfl) rfl (by decide) ?_
    refine pj_icmp_ge (t := 235) (q := 212) (pj_d p_X12_nextToken 101 rfl) rfl (by decide) (fun c3 => ?_) (fun c3 => ?_)
    · have := gd_ge c3 (by omega) (by omega)
      refine pj_ald0 (q := 236) (pj_d p_X12_nextToken 115 rfl) rfl ?_
      refine pj_gf (q := 239) (k := 14) (pj_d p_X12_nextToken 116 rfl) rfl kX12_91 (by first | assumption | exact pj_up_s | exact (pj_up_n (by omega)).trans (by assumption)) (by rfl) (by rfl) ?_
      rw [K3.2.2.2.2.2]
      exact go _ (by rw [gd_nv, if_neg (by omega), gd_nv, if_neg (by omega)])
    · have i1 : i = 1 := by have := gd_lt c3 (by omega); omega
      refine pj_bipush (q := 214) (v := nI 10) (pj_d p_X12_nextToken 102 rfl) rfl (by decide) ?_
      refine pj_ald0 (q := 215) (pj_d p_X12_nextToken 103 rfl) rfl ?_
      refine pj_gf (q := 218) (k := 14) (pj_d p_X12_nextToken 104 rfl) rfl kX12_91 (by first | assumption | exact pj_up_s | exact (pj_up_n (by omega)).trans (by assumption)) (by rfl) (by rfl) ?_
      rw [K3.2.2.2.2.2]
      refine pj_imul (q := 219) (pj_d p_X12_nextToken 105 rfl) rfl ?_
      refine pj_ald0 (q := 220) (pj_d p_X12_nextToken 106 rfl) rfl ?_
      refine pj_gf (q := 223) (k := 9) (pj_d p_X12_nextToken 107 rfl) rfl kX12_28 (by first | assumption | exact pj_up_s | exact (pj_up_n (by omega)).trans (by assumption)) (by rfl) (by rfl) ?_
      refine pj_ald0 (q := 224) (pj_d p_X12_nextToken 108 rfl) rfl ?_
      refine pj_gf (q := 227) (k := 11) (pj_d p_X12_nextToken 109 rfl) rfl kX12_87 (by first | assumption | exact pj_up_s | exact (pj_up_n (by omega)).trans (by assumption)) (by rfl) (by rfl) ?_
      rw [K3.2.2.1]
      refine pj_ialdN (q := 228) (pj_d p_X12_nextToken 110 rfl) rfl (by first | assumption | exact pj_up_s | exact (pj_up_n (by omega)).trans (by assumption)) (by rfl) (by first | assumption | omega) (Nat.le_of_ble_eq_true rfl) ?_
      refine pj_iadd (q := 229) (pj_d p_X12_nextToken 111 rfl) rfl ?_
      refine pj_bipush (q := 231) (v := nI 48) (pj_d p_X12_nextToken 112 rfl) rfl (by decide) ?_
      refine pj_isub (q := 232) (pj_d p_X12_nextToken 113 rfl) rfl ?_
      rw [pk_mul, nI_add, gd_sub (by omega)]
      refine pj_goto (t := 239) (pj_d p_X12_nextToken 114 rfl) (by decide) ?_
      exact go _ (by rw [i1] at de ⊢; rw [gd_nv, if_pos rfl, gd_nv, if_neg (by decide)]; omega)
theorem gd_nt_D (hM : h g = some (.inr (11, gd_Mo g v))) (hb : h (g + 7) = some (.inl (0, 120, .inl (fun j => nI (c j))))) (hL : L ≤ 120) (hc : ∀ j, c j < 256) {p : Nat} (hp : p ≤ L) (v2 : Nat → Int32) (t0 : Int32) (K2 : gd_FS v v2 L (nI p) (nI p) t0 (nI (c p))) (pL : p < L) (pd : gd_dg (c p) = true) : pj_V E B l Y_X12_nextToken 2 0 0 118 [some (.ref g)] [.int (nI 3), .ref g] (pj_up h g (.inr (11, gd_Mo g v2))) n 0 0 (gd_NT c L p v h g n) := by
  have hcp := hc p
  have dd := gd_dg_iff.mp pd
  refine pj_pf (q := 121) (k := 13) (fs' := gd_Mo g (upd v2 13 (nI 3))) (pj_d p_X12_nextToken 55 rfl) rfl kX12_102 (by first | assumption | exact pj_up_s | exact (pj_up_n (by omega)).trans (by assumption)) (by rfl) (Or.inl rfl) (by rfl) (by rfl) (by rfl) (by show 13 < 24; decide) (by rfl) ?_
  rw [pj_up_up]
  have K3 := K2.s13 (nI 3)
  generalize upd v2 13 (nI 3) = v3 at K3 ⊢
  refine pj_ald0 (q := 122) (pj_d p_X12_nextToken 56 rfl) rfl ?_
  refine pj_dup (q := 123) (pj_d p_X12_nextToken 57 rfl) rfl rfl ?_
  refine pj_gf (q := 126) (k := 11) (pj_d p_X12_nextToken 58 rfl) rfl kX12_87 (by first | assumption | exact pj_up_s | exact (pj_up_n (by omega)).trans (by assumption)) (by rfl) (by rfl) ?_
  refine pj_ald0 (q := 127) (pj_d p_X12_nextToken 59 rfl) rfl ?_
  refine pj_gf (q := 130) (k := 11) (pj_d p_X12_nextToken 60 rfl) rfl kX12_87 (by first | assumption | exact pj_up_s | exact (pj_up_n (by omega)).trans (by assumption)) (by rfl) (by rfl) ?_
  refine pj_ald0 (q := 131) (pj_d p_X12_nextToken 61 rfl) rfl ?_
  refine pj_gf (q := 134) (k := 10) (pj_d p_X12_nextToken 62 rfl) rfl kX12_74 (by first | assumption | exact pj_up_s | exact (pj_up_n (by omega)).trans (by assumption)) (by rfl) (by rfl) ?_
  rw [K3.2.2.1, K3.2.1]
  refine pj_icmp_ge (t := 141) (q := 137) (pj_d p_X12_nextToken 63 rfl) rfl (by decide) (fun c5 => ?_) (fun c5 => ?_)
  · exact absurd (gd_ge c5 (by omega) (by omega)) (by omega)
  refine pj_iconst (q := 138) (v := nI 1) (pj_d p_X12_nextToken 64 rfl) rfl (by decide) ?_
  refine pj_goto (t := 142) (pj_d p_X12_nextToken 65 rfl) (by decide) ?_
  refine pj_iadd (q := 143) (pj_d p_X12_nextToken 67 rfl) rfl ?_
  rw [nI_add]
  refine pj_pf (q := 146) (k := 11) (fs' := gd_Mo g (upd v3 11 (nI (p + 1)))) (pj_d p_X12_nextToken 68 rfl) rfl kX12_87 (by first | assumption | exact pj_up_s | exact (pj_up_n (by omega)).trans (by assumption)) (by rfl) (Or.inl rfl) (by rfl) (by rfl) (by rfl) (by show 11 < 24; decide) (by rfl) ?_
  rw [pj_up_up]
  have K4 := K3.s11 (nI (p + 1))
  generalize upd v3 11 (nI (p + 1)) = v4 at K4 ⊢
  refine pj_ald0 (q := 147) (pj_d p_X12_nextToken 69 rfl) rfl ?_
  refine pj_gf (q := 150) (k := 13) (pj_d p_X12_nextToken 70 rfl) rfl kX12_102 (by first | assumption | exact pj_up_s | exact (pj_up_n (by omega)).trans (by assumption)) (by rfl) (by rfl) ?_
  rw [K4.2.2.2.2.1]
  refine pj_iconst (q := 151) (v := nI 3) (pj_d p_X12_nextToken 71 rfl) rfl (by decide) ?_
  refine pj_icmp_ne (t := 277) (q := 154) (pj_d p_X12_nextToken 72 rfl) rfl (by decide) (fun c6 => ?_) (fun c6 => ?_)
  · exact absurd rfl c6
  refine pj_ald0 (q := 155) (pj_d p_X12_nextToken 73 rfl) rfl ?_
  refine pj_dup (q := 156) (pj_d p_X12_nextToken 74 rfl) rfl rfl ?_
  refine pj_gf (q := 159) (k := 14) (pj_d p_X12_nextToken 75 rfl) rfl kX12_91 (by first | assumption | exact pj_up_s | exact (pj_up_n (by omega)).trans (by assumption)) (by rfl) (by rfl) ?_
  rw [K4.2.2.2.2.2]
  refine pj_bipush (q := 161) (v := nI 48) (pj_d p_X12_nextToken 76 rfl) rfl (by decide) ?_
  refine pj_isub (q := 162) (pj_d p_X12_nextToken 77 rfl) rfl ?_
  rw [gd_sub (by omega)]
  refine pj_pf (q := 165) (k := 14) (fs' := gd_Mo g (upd v4 14 (nI (c p - 48)))) (pj_d p_X12_nextToken 78 rfl) rfl kX12_91 (by first | assumption | exact pj_up_s | exact (pj_up_n (by omega)).trans (by assumption)) (by rfl) (Or.inl rfl) (by rfl) (by rfl) (by rfl) (by show 14 < 24; decide) (by rfl) ?_
  rw [pj_up_up]
  have K5 := K4.s14 (nI (c p - 48))
  generalize upd v4 14 (nI (c p - 48)) = v5 at K5 ⊢
  exact gd_nt_L hM hb hL hc hp (gd_fg c L p + 1) 1 v5 _ pL pd (by omega) (by omega) (gd_fg_pos pL pd) (by rw [gd_nv, if_pos rfl]; exact K5)
theorem gd_nt_M (hM : h g = some (.inr (11, gd_Mo g v))) (hb : h (g + 7) = some (.inl (0, 120, .inl (fun j => nI (c j))))) (hL : L ≤ 120) (hc : ∀ j, c j < 256) {p : Nat} (hp : p ≤ L) (v2 : Nat → Int32) (t0 : Int32) (K2 : gd_FS v v2 L (nI p) (nI p) t0 (nI (c p))) (pL : p < L) : pj_V E B l Y_X12_nextToken 2 0 0 53 [some (.ref g)] [.ref g] (pj_up h g (.inr (11, gd_Mo g v2))) n 0 0 (gd_NT c L p v h g n) := by
  have hcp := hc p
  refine pj_ald0 (q := 54) (pj_d p_X12_nextToken 26 rfl) rfl ?_
  refine pj_gf (q := 57) (k := 14) (pj_d p_X12_nextToken 27 rfl) rfl kX12_91 (by first | assumption | exact pj_up_s | exact (pj_up_n (by omega)).trans (by assumption)) (by rfl) (by rfl) ?_
  rw [K2.2.2.2.2.2]
  refine pj_i2l (q := 58) (pj_d p_X12_nextToken 28 rfl) rfl ?_
  refine pj_ldc2 (q := 61) (pj_d p_X12_nextToken 29 rfl) rfl kX12_94 ?_
  refine pj_ldc2 (q := 64) (pj_d p_X12_nextToken 30 rfl) rfl kX12_96 ?_
  refine pj_cp (pj_rS (q := 67) (c_X12_in (nI (c p)) 97 122 97 122 (by decide) (by decide)) (pj_d p_X12_nextToken 31 rfl) rfl kX12_57 o_X12_in (by rfl) (by rfl) (Nat.le_of_ble_eq_true rfl) (by decide)) (by decide) (by decide) ?_
  rw [gd_rng_nI (by omega)]
  refine pj_if_eq (t := 74) (q := 70) (pj_d p_X12_nextToken 32 rfl) rfl (by decide) (fun c3 => ?_) (fun c3 => ?_)
  rotate_left
  · have e := gd_dec_t c3
    have nd : ¬ gd_dg (c p) = true := fun q => by have := gd_dg_iff.mp q; omega
    have hv : gd_tv c L p = nI (c p) := by rw [gd_tv, if_pos pL, if_neg nd]
    refine pj_iconst (q := 71) (v := nI 2) (pj_d p_X12_nextToken 33 rfl) rfl (by decide) ?_
    refine pj_goto (t := 118) (pj_d p_X12_nextToken 34 rfl) (by decide) ?_
    rw [← hv] at K2
    exact gd_nt_T hM hb hL hc hp v2 2 _ K2 (by decide) (by decide) (gd_tok2.mpr ⟨pL, by omega⟩).symm (by rw [gd_cu, if_pos pL, if_pos pL, if_neg nd])
  have nl := gd_dec_f c3
  refine pj_ald0 (q := 75) (pj_d p_X12_nextToken 35 rfl) rfl ?_
  refine pj_gf (q := 78) (k := 14) (pj_d p_X12_nextToken 36 rfl) rfl kX12_91 (by first | assumption | exact pj_up_s | exact (pj_up_n (by omega)).trans (by assumption)) (by rfl) (by rfl) ?_
  rw [K2.2.2.2.2.2]
  refine pj_i2l (q := 79) (pj_d p_X12_nextToken 37 rfl) rfl ?_
  refine pj_ldc2 (q := 82) (pj_d p_X12_nextToken 38 rfl) rfl kX12_98 ?_
  refine pj_ldc2 (q := 85) (pj_d p_X12_nextToken 39 rfl) rfl kX12_100 ?_
  refine pj_cp (pj_rS (q := 88) (c_X12_in (nI (c p)) 48 57 48 57 (by decide) (by decide)) (pj_d p_X12_nextToken 40 rfl) rfl kX12_57 o_X12_in (by rfl) (by rfl) (Nat.le_of_ble_eq_true rfl) (by decide)) (by decide) (by decide) ?_
  rw [gd_dgI (hc p)]
  refine pj_if_eq (t := 95) (q := 91) (pj_d p_X12_nextToken 41 rfl) rfl (by decide) (fun c4 => ?_) (fun c4 => ?_)
  rotate_left
  · have pd := (gd_b_n _).mp c4
    have dd := gd_dg_iff.mp pd
    refine pj_iconst (q := 92) (v := nI 3) (pj_d p_X12_nextToken 42 rfl) rfl (by decide) ?_
    refine pj_goto (t := 118) (pj_d p_X12_nextToken 43 rfl) (by decide) ?_
    exact gd_nt_D hM hb hL hc hp v2 _ K2 pL pd
  have nd' := (gd_b_z _).mp c4
  have nd : ¬ gd_dg (c p) = true := by rw [nd']; decide
  have hv : gd_tv c L p = nI (c p) := by rw [gd_tv, if_pos pL, if_neg nd]
  have hcu : gd_cu c L p = if p < L then p + 1 else p := by rw [gd_cu, if_pos pL, if_pos pL, if_neg nd]
  have htk : gd_tok c L p = if c p = 44 ∨ c p = 59 then 4 else 0 := by rw [gd_tok, if_pos pL, if_neg (by omega), if_neg nd]
  have K2' := K2
  rw [← hv] at K2'
  have s4 : (c p = 44 ∨ c p = 59) → pj_V E B l Y_X12_nextToken 2 0 0 113 [some (.ref g)] [.ref g] (pj_up h g (.inr (11, gd_Mo g v2))) n 0 0 (gd_NT c L p v h g n) := by
    intro q
    refine pj_iconst (q := 114) (v := nI 4) (pj_d p_X12_nextToken 52 rfl) rfl (by decide) ?_
    refine pj_goto (t := 118) (pj_d p_X12_nextToken 53 rfl) (by decide) ?_
    exact gd_nt_T hM hb hL hc hp v2 4 _ K2' (by decide) (by decide) (by rw [htk, if_pos q]) hcu
  refine pj_ald0 (q := 96) (pj_d p_X12_nextToken 44 rfl) rfl ?_
  refine pj_gf (q := 99) (k := 14) (pj_d p_X12_nextToken 45 rfl) rfl kX12_91 (by first | assumption | exact pj_up_s | exact (pj_up_n (by omega)).trans (by assumption)) (by rfl) (by rfl) ?_
  refine pj_bipush (q := 101) (v := nI 44) (pj_d p_X12_nextToken 46 rfl) rfl (by decide) ?_
  rw [K2.2.2.2.2.2]
  refine pj_icmp_eq (t := 113) (q := 104) (pj_d p_X12_nextToken 47 rfl) rfl (by decide) (fun c5 => ?_) (fun c5 => ?_)
  · exact s4 (Or.inl ((nI_eq (by omega) (by omega)).mp c5))
  refine pj_ald0 (q := 105) (pj_d p_X12_nextToken 48 rfl) rfl ?_
  refine pj_gf (q := 108) (k := 14) (pj_d p_X12_nextToken 49 rfl) rfl kX12_91 (by first | assumption | exact pj_up_s | exact (pj_up_n (by omega)).trans (by assumption)) (by rfl) (by rfl) ?_
  refine pj_bipush (q := 110) (v := nI 59) (pj_d p_X12_nextToken 50 rfl) rfl (by decide) ?_
  rw [K2.2.2.2.2.2]
  refine pj_icmp_ne (t := 117) (q := 113) (pj_d p_X12_nextToken 51 rfl) rfl (by decide) (fun c6 => ?_) (fun c6 => ?_)
  · refine pj_iconst (q := 118) (v := nI 0) (pj_d p_X12_nextToken 54 rfl) rfl (by decide) ?_
    exact gd_nt_T hM hb hL hc hp v2 0 _ K2' (by decide) (by decide) (by rw [htk, if_neg (fun q => by rcases q with q | q; exact c5 (by rw [q]); exact c6 (by rw [q]))]) hcu
  · exact s4 (Or.inr ((nI_eq (by omega) (by omega)).mp c6))
theorem c_X12_nextToken (hM : h g = some (.inr (11, gd_Mo g v))) (hb : h (g + 7) = some (.inl (0, 120, .inl (fun j => nI (c j))))) (hL : L ≤ 120) (hc : ∀ j, c j < 256) (h10 : v 10 = nI L) {p : Nat} (h11 : v 11 = nI p) (hp : p ≤ L) : pj_Ct E B l Y_X12_nextToken 2 0 0 [.ref g] h n (gd_NT c L p v h g n) := by
  have hcp := hc p
  refine pj_in rfl (ls := [some (.ref g)]) rfl (Nat.le_of_ble_eq_true rfl) ?_
  refine pj_ald0 (q := 1) (pj_d p_X12_nextToken 0 rfl) rfl ?_
  refine pj_ald0 (q := 2) (pj_d p_X12_nextToken 1 rfl) rfl ?_
  refine pj_gf (q := 5) (k := 11) (pj_d p_X12_nextToken 2 rfl) rfl kX12_87 (by first | assumption | exact pj_up_s | exact (pj_up_n (by omega)).trans (by assumption)) (by rfl) (by rfl) ?_
  rw [h11]
  refine pj_pf (q := 8) (k := 12) (fs' := gd_Mo g (upd v 12 (nI p))) (pj_d p_X12_nextToken 3 rfl) rfl kX12_81 (by first | assumption | exact pj_up_s | exact (pj_up_n (by omega)).trans (by assumption)) (by rfl) (Or.inl rfl) (by rfl) (by rfl) (by rfl) (by show 12 < 24; decide) (by rfl) ?_
  have K1 : gd_FS v (upd v 12 (nI p)) L (nI p) (nI p) (v 13) (v 14) := gd_FS.s12 (b := v 12) ⟨fun _ _ => rfl, h10, h11, rfl, rfl, rfl⟩ (nI p)
  generalize upd v 12 (nI p) = v1 at K1 ⊢
  refine pj_ald0 (q := 9) (pj_d p_X12_nextToken 4 rfl) rfl ?_
  refine pj_ald0 (q := 10) (pj_d p_X12_nextToken 5 rfl) rfl ?_
  refine pj_gf (q := 13) (k := 11) (pj_d p_X12_nextToken 6 rfl) rfl kX12_87 (by first | assumption | exact pj_up_s | exact (pj_up_n (by omega)).trans (by assumption)) (by rfl) (by rfl) ?_
  refine pj_ald0 (q := 14) (pj_d p_X12_nextToken 7 rfl) rfl ?_
  refine pj_gf (q := 17) (k := 10) (pj_d p_X12_nextToken 8 rfl) rfl kX12_74 (by first | assumption | exact pj_up_s | exact (pj_up_n (by omega)).trans (by assumption)) (by rfl) (by rfl) ?_
  rw [K1.2.2.1, K1.2.1]
  by_cases pL : p < L
  rotate_left
  · have ht : gd_tok c L p = 1 := gd_tok1.mpr pL
    have hv : gd_tv c L p = -1000000 := by rw [gd_tv, if_neg pL]
    refine pj_icmp_ge (t := 32) (q := 20) (pj_d p_X12_nextToken 9 rfl) rfl (by decide) (fun c1 => ?_) (fun c1 => ?_)
    rotate_left
    · exact absurd (gd_lt c1 (by omega)) pL
    refine pj_ldc (q := 34) (pj_d p_X12_nextToken 16 rfl) rfl kX12_90 ?_
    rw [← hv]
    refine pj_pf (q := 37) (k := 14) (fs' := gd_Mo g (upd v1 14 (gd_tv c L p))) (pj_d p_X12_nextToken 17 rfl) rfl kX12_91 (by first | assumption | exact pj_up_s | exact (pj_up_n (by omega)).trans (by assumption)) (by rfl) (Or.inl rfl) (by rfl) (by rfl) (by rfl) (by show 14 < 24; decide) (by rfl) ?_
    rw [pj_up_up]
    have K2 := K1.s14 (gd_tv c L p)
    generalize upd v1 14 (gd_tv c L p) = v2 at K2 ⊢
    refine pj_ald0 (q := 38) (pj_d p_X12_nextToken 18 rfl) rfl ?_
    refine pj_ald0 (q := 39) (pj_d p_X12_nextToken 19 rfl) rfl ?_
    refine pj_gf (q := 42) (k := 11) (pj_d p_X12_nextToken 20 rfl) rfl kX12_87 (by first | assumption | exact pj_up_s | exact (pj_up_n (by omega)).trans (by assumption)) (by rfl) (by rfl) ?_
    refine pj_ald0 (q := 43) (pj_d p_X12_nextToken 21 rfl) rfl ?_
    refine pj_gf (q := 46) (k := 10) (pj_d p_X12_nextToken 22 rfl) rfl kX12_74 (by first | assumption | exact pj_up_s | exact (pj_up_n (by omega)).trans (by assumption)) (by rfl) (by rfl) ?_
    rw [K2.2.2.1, K2.2.1]
    refine pj_icmp_ne (t := 53) (q := 49) (pj_d p_X12_nextToken 23 rfl) rfl (by decide) (fun c2 => ?_) (fun c2 => ?_)
    · exact absurd (show nI p = nI L by rw [show p = L by omega]) c2
    refine pj_iconst (q := 50) (v := nI 1) (pj_d p_X12_nextToken 24 rfl) rfl (by decide) ?_
    refine pj_goto (t := 118) (pj_d p_X12_nextToken 25 rfl) (by decide) ?_
    exact gd_nt_T hM hb hL hc hp v2 1 _ K2 (by decide) (by decide) ht.symm (by rw [gd_cu, if_neg pL, if_neg pL])
  refine pj_icmp_ge (t := 32) (q := 20) (pj_d p_X12_nextToken 9 rfl) rfl (by decide) (fun c1 => ?_) (fun c1 => ?_)
  · exact absurd (gd_ge c1 (by omega) (by omega)) (by omega)
  have p120 : p < 120 := by omega
  refine pj_ald0 (q := 21) (pj_d p_X12_nextToken 10 rfl) rfl ?_
  refine pj_gf (q := 24) (k := 9) (pj_d p_X12_nextToken 11 rfl) rfl kX12_28 (by first | assumption | exact pj_up_s | exact (pj_up_n (by omega)).trans (by assumption)) (by rfl) (by rfl) ?_
  refine pj_ald0 (q := 25) (pj_d p_X12_nextToken 12 rfl) rfl ?_
  refine pj_gf (q := 28) (k := 11) (pj_d p_X12_nextToken 13 rfl) rfl kX12_87 (by first | assumption | exact pj_up_s | exact (pj_up_n (by omega)).trans (by assumption)) (by rfl) (by rfl) ?_
  rw [K1.2.2.1]
  refine pj_ialdN (q := 29) (pj_d p_X12_nextToken 14 rfl) rfl (by first | assumption | exact pj_up_s | exact (pj_up_n (by omega)).trans (by assumption)) (by rfl) (by first | assumption | omega) (Nat.le_of_ble_eq_true rfl) ?_
  refine pj_goto (t := 34) (pj_d p_X12_nextToken 15 rfl) (by decide) ?_
  refine pj_pf (q := 37) (k := 14) (fs' := gd_Mo g (upd v1 14 (nI (c p)))) (pj_d p_X12_nextToken 17 rfl) rfl kX12_91 (by first | assumption | exact pj_up_s | exact (pj_up_n (by omega)).trans (by assumption)) (by rfl) (Or.inl rfl) (by rfl) (by rfl) (by rfl) (by show 14 < 24; decide) (by rfl) ?_
  rw [pj_up_up]
  have K2 := K1.s14 (nI (c p))
  generalize upd v1 14 (nI (c p)) = v2 at K2 ⊢
  refine pj_ald0 (q := 38) (pj_d p_X12_nextToken 18 rfl) rfl ?_
  refine pj_ald0 (q := 39) (pj_d p_X12_nextToken 19 rfl) rfl ?_
  refine pj_gf (q := 42) (k := 11) (pj_d p_X12_nextToken 20 rfl) rfl kX12_87 (by first | assumption | exact pj_up_s | exact (pj_up_n (by omega)).trans (by assumption)) (by rfl) (by rfl) ?_
  refine pj_ald0 (q := 43) (pj_d p_X12_nextToken 21 rfl) rfl ?_
  refine pj_gf (q := 46) (k := 10) (pj_d p_X12_nextToken 22 rfl) rfl kX12_74 (by first | assumption | exact pj_up_s | exact (pj_up_n (by omega)).trans (by assumption)) (by rfl) (by rfl) ?_
  rw [K2.2.2.1, K2.2.1]
  refine pj_icmp_ne (t := 53) (q := 49) (pj_d p_X12_nextToken 23 rfl) rfl (by decide) (fun c2 => ?_) (fun c2 => ?_)
  rotate_left
  · exact absurd ((nI_eq (by omega) (by omega)).mp c2) (by omega)
  exact gd_nt_M hM hb hL hc hp v2 _ K2 pL
theorem c_X12_bad (hM : h g = some (.inr (11, gd_Mo g v))) (hS : gd_MS c L v S) (hB : gd_PB L S) {k : Nat} (hk : k ≠ 0) : pj_Ct E B l Y_X12_bad 1 0 0 [.ref g, .int (nI k)] h n (gd_MU c L (gd_fa S S.1 k) v h g n) := by
  have b2 := hB.2.1
  refine pj_in rfl (ls := [some (.ref g), some (.int (nI k))]) rfl (Nat.le_of_ble_eq_true rfl) ?_
  refine pj_ald0 (q := 1) (pj_d p_X12_bad 0 rfl) rfl ?_
  refine pj_gf (q := 4) (k := 15) (pj_d p_X12_bad 1 rfl) rfl kX12_78 (by first | assumption | exact pj_up_s | exact (pj_up_n (by omega)).trans (by assumption)) (by rfl) (by rfl) ?_
  rw [hS.2.1]
  refine pj_if_ne (t := 20) (q := 7) (pj_d p_X12_bad 2 rfl) rfl (by decide) (fun c1 => ?_) (fun c1 => ?_)
  · have e : ¬ S.2.1 = 0 := fun q => c1 (by rw [q]; rfl)
    refine pj_vret rfl (pj_d p_X12_bad 10 rfl) (by decide) (by decide) ?_
    exact ⟨rfl, rfl, v, (pj_up_id hM).symm, fun _ _ => rfl, by rw [gd_fa, if_neg e]; exact hS⟩
  · have e : S.2.1 = 0 := (nI_eq (by omega) (by omega)).mp (c1.trans nI_0.symm)
    obtain ⟨y1, y2, y3, y4⟩ := hS.2.2.1 e
    refine pj_ald0 (q := 8) (pj_d p_X12_bad 3 rfl) rfl ?_
    refine pj_ild1 (q := 9) (pj_d p_X12_bad 4 rfl) rfl ?_
    refine pj_pf (q := 12) (k := 15) (fs' := gd_Mo g (upd v 15 (nI k))) (pj_d p_X12_bad 5 rfl) rfl kX12_78 (by first | assumption | exact pj_up_s | exact (pj_up_n (by omega)).trans (by assumption)) (by rfl) (Or.inl rfl) (by rfl) (by rfl) (by rfl) (by show 15 < 24; decide) (by rfl) ?_
    refine pj_ald0 (q := 13) (pj_d p_X12_bad 6 rfl) rfl ?_
    refine pj_ald0 (q := 14) (pj_d p_X12_bad 7 rfl) rfl ?_
    refine pj_gf (q := 17) (k := 12) (pj_d p_X12_bad 8 rfl) rfl kX12_81 (by first | assumption | exact pj_up_s | exact (pj_up_n (by omega)).trans (by assumption)) (by rfl) (by rfl) ?_
    rw [show upd v 15 (nI k) 12 = nI S.1 from y2]
    refine pj_pf (q := 20) (k := 16) (fs' := gd_Mo g (upd (upd v 15 (nI k)) 16 (nI S.1))) (pj_d p_X12_bad 9 rfl) rfl kX12_84 (by first | assumption | exact pj_up_s | exact (pj_up_n (by omega)).trans (by assumption)) (by rfl) (Or.inl rfl) (by rfl) (by rfl) (by rfl) (by show 16 < 24; decide) (by rfl) ?_
    rw [pj_up_up]
    refine pj_vret rfl (pj_d p_X12_bad 10 rfl) (by decide) (by decide) ?_
    refine ⟨rfl, rfl, _, rfl, fun i hi => by rw [gd_upd_n (by omega), gd_upd_n (by omega)], ?_⟩
    rw [gd_fa, if_pos e]
    exact ⟨hS.1, rfl, fun q => absurd q hk, fun _ => rfl⟩
theorem c_X12_must (hM : h g = some (.inr (11, gd_Mo g v))) (hb : h (g + 7) = some (.inl (0, 120, .inl (fun j => nI (c j))))) (hL : L ≤ 120) (hc : ∀ j, c j < 256) (hS : gd_MS c L v S) (hB : gd_PB L S) (b : Bool) : pj_Ct E B l Y_X12_must 3 0 0 [.ref g, .int (gd_b b)] h n (gd_MU c L (gd_mu c L b S) v h g n) := by
  have b2 := hB.2.1
  refine pj_in rfl (ls := [some (.ref g), some (.int (gd_b b))]) rfl (Nat.le_of_ble_eq_true rfl) ?_
  refine pj_ild1 (q := 1) (pj_d p_X12_must 0 rfl) rfl ?_
  cases b with
  | false =>
    refine pj_if_ne (t := 9) (q := 4) (pj_d p_X12_must 1 rfl) rfl (by decide) (fun c1 => ?_) (fun c1 => ?_)
    · exact absurd rfl c1
    refine pj_ald0 (q := 5) (pj_d p_X12_must 2 rfl) rfl ?_
    refine pj_iconst (q := 6) (v := nI 1) (pj_d p_X12_must 3 rfl) rfl (by decide) ?_
    refine pj_cv (pj_rV (q := 9) (c_X12_bad hM hS hB (k := 1) (by decide)) (pj_d p_X12_must 4 rfl) rfl kX12_105 o_X12_bad (by first | assumption | exact pj_up_s | exact (pj_up_n (by omega)).trans (by assumption)) (by rfl) (by rfl) (by rfl) (by rfl) (Nat.le_of_ble_eq_true rfl) (by decide)) (by decide) (by decide) ?_
    rintro r1 h1 n1 ⟨rfl, rfl, v1, rfl, p1, s1⟩
    refine pj_ald0 (q := 10) (pj_d p_X12_must 5 rfl) rfl ?_
    refine pj_gf (q := 13) (k := 15) (pj_d p_X12_must 6 rfl) rfl kX12_78 (by first | assumption | exact pj_up_s | exact (pj_up_n (by omega)).trans (by assumption)) (by rfl) (by rfl) ?_
    rw [s1.2.1]
    refine pj_if_ne (t := 20) (q := 16) (pj_d p_X12_must 7 rfl) rfl (by decide) (fun c2 => ?_) (fun c2 => ?_)
    · refine pj_vret rfl (pj_d p_X12_must 10 rfl) (by decide) (by decide) ?_
      exact ⟨rfl, rfl, v1, rfl, p1, s1⟩
    · have pb := (gd_PB_fa (w := S.1) (k := 1) hB hB.1 (by omega)).2.1
      have e : (gd_fa S S.1 1).2.1 = 0 := (nI_eq (by omega) (by omega)).mp (c2.trans nI_0.symm)
      exact (gd_fa_ok (by decide) e).elim
  | true =>
    refine pj_if_ne (t := 9) (q := 4) (pj_d p_X12_must 1 rfl) rfl (by decide) (fun c1 => ?_) (fun c1 => ?_)
    rotate_left
    · exact absurd c1 (by decide)
    refine pj_ald0 (q := 10) (pj_d p_X12_must 5 rfl) rfl ?_
    refine pj_gf (q := 13) (k := 15) (pj_d p_X12_must 6 rfl) rfl kX12_78 (by first | assumption | exact pj_up_s | exact (pj_up_n (by omega)).trans (by assumption)) (by rfl) (by rfl) ?_
    rw [hS.2.1]
    refine pj_if_ne (t := 20) (q := 16) (pj_d p_X12_must 7 rfl) rfl (by decide) (fun c2 => ?_) (fun c2 => ?_)
    · have e : ¬ S.2.1 = 0 := fun q => c2 (by rw [q]; rfl)
      refine pj_vret rfl (pj_d p_X12_must 10 rfl) (by decide) (by decide) ?_
      exact ⟨rfl, rfl, v, (pj_up_id hM).symm, fun _ _ => rfl, by rw [gd_mu, if_pos rfl, if_neg e]; exact hS⟩
    · have e : S.2.1 = 0 := (nI_eq (by omega) (by omega)).mp (c2.trans nI_0.symm)
      refine pj_ald0 (q := 17) (pj_d p_X12_must 8 rfl) rfl ?_
      refine pj_cv (pj_rV (q := 20) (c_X12_nextToken hM hb hL hc hS.1 (hS.2.2.1 e).1 (gd_cu_le hB.1)) (pj_d p_X12_must 9 rfl) rfl kX12_109 o_X12_nextToken (by first | assumption | exact pj_up_s | exact (pj_up_n (by omega)).trans (by assumption)) (by rfl) (by rfl) (by rfl) (by rfl) (Nat.le_of_ble_eq_true rfl) (by decide)) (by decide) (by decide) ?_
      rintro r1 h1 n1 ⟨rfl, rfl, v1, rfl, k1⟩
      refine pj_vret rfl (pj_d p_X12_must 10 rfl) (by decide) (by decide) ?_
      refine ⟨rfl, rfl, v1, rfl, fun i hi => k1.1 i (by omega), ?_⟩
      rw [gd_mu, if_pos rfl, if_pos e]
      exact ⟨k1.2.1, by rw [k1.1 15 (by omega)]; exact hS.2.1, fun _ => ⟨k1.2.2.1, k1.2.2.2.1, k1.2.2.2.2⟩, fun q => absurd e q⟩
theorem gd_mu_bad {b : Bool} (e : ¬ S.2.1 = 0) : gd_mu c L b S = S := by
  cases b with
  | false => rw [gd_mu, if_neg (by decide), gd_fa, if_neg e]
  | true => rw [gd_mu, if_pos rfl, if_neg e]
theorem c_X12_mustSign (hM : h g = some (.inr (11, gd_Mo g v))) (hb : h (g + 7) = some (.inl (0, 120, .inl (fun j => nI (c j))))) (hL : L ≤ 120) (hc : ∀ j, c j < 256) (hS : gd_MS c L v S) (hB : gd_PB L S) {x : Nat} (hx : x = 44 ∨ x = 59) : pj_Ct E B l Y_X12_mustSign 4 0 0 [.ref g, .int (nI x)] h n (gd_MU c L (gd_tb c L x S) v h g n) := by
  refine pj_in rfl (ls := [some (.ref g), some (.int (nI x))]) rfl (Nat.le_of_ble_eq_true rfl) ?_
  have go : ∀ b, gd_mu c L b S = gd_tb c L x S → pj_V E B l Y_X12_mustSign 4 0 0 22 [some (.ref g), some (.int (nI x))] [.int (gd_b b), .ref g] h n 0 0 (gd_MU c L (gd_tb c L x S) v h g n) := by
    intro b e
    refine pj_cv (pj_rV (q := 25) (c_X12_must hM hb hL hc hS hB b) (pj_d p_X12_mustSign 12 rfl) rfl kX12_112 o_X12_must (by first | assumption | exact pj_up_s | exact (pj_up_n (by omega)).trans (by assumption)) (by rfl) (by rfl) (by rfl) (by rfl) (Nat.le_of_ble_eq_true rfl) (by decide)) (by decide) (by decide) ?_
    rintro r1 h1 n1 ⟨rfl, rfl, v1, rfl, p1, s1⟩
    rw [e] at s1
    refine pj_vret rfl (pj_d p_X12_mustSign 13 rfl) (by decide) (by decide) ?_
    exact ⟨rfl, rfl, v1, rfl, p1, s1⟩
  by_cases e : S.2.1 = 0
  · obtain ⟨y1, y2, y3, y4⟩ := hS.2.2.1 e
    have key := gd_tok4 (c := c) (L := L) (p := S.1) hc hx
    have no : ¬ (S.1 < L ∧ c S.1 = x) → gd_mu c L false S = gd_tb c L x S := fun q => by rw [gd_mu, if_neg (by decide), gd_tb, if_pos e, if_neg q, gd_fa, if_pos e]
    have tl := gd_tok_lt (c := c) (L := L) (p := S.1)
    refine pj_ald0 (q := 1) (pj_d p_X12_mustSign 0 rfl) rfl ?_
    refine pj_ald0 (q := 2) (pj_d p_X12_mustSign 1 rfl) rfl ?_
    refine pj_gf (q := 5) (k := 13) (pj_d p_X12_mustSign 2 rfl) rfl kX12_102 (by first | assumption | exact pj_up_s | exact (pj_up_n (by omega)).trans (by assumption)) (by rfl) (by rfl) ?_
    rw [y3]
    refine pj_iconst (q := 6) (v := nI 4) (pj_d p_X12_mustSign 3 rfl) rfl (by decide) ?_
    refine pj_icmp_ne (t := 21) (q := 9) (pj_d p_X12_mustSign 4 rfl) rfl (by decide) (fun c1 => ?_) (fun c1 => ?_)
    · refine pj_iconst (q := 22) (v := nI 0) (pj_d p_X12_mustSign 11 rfl) rfl (by decide) ?_
      exact go false (no (fun q => c1 (by rw [(key.mpr q).1])))
    have t4 : gd_tok c L S.1 = 4 := (nI_eq (by omega) (by omega)).mp c1
    refine pj_ald0 (q := 10) (pj_d p_X12_mustSign 5 rfl) rfl ?_
    refine pj_gf (q := 13) (k := 14) (pj_d p_X12_mustSign 6 rfl) rfl kX12_91 (by first | assumption | exact pj_up_s | exact (pj_up_n (by omega)).trans (by assumption)) (by rfl) (by rfl) ?_
    refine pj_ild1 (q := 14) (pj_d p_X12_mustSign 7 rfl) rfl ?_
    rw [y4]
    refine pj_icmp_ne (t := 21) (q := 17) (pj_d p_X12_mustSign 8 rfl) rfl (by decide) (fun c2 => ?_) (fun c2 => ?_)
    · refine pj_iconst (q := 22) (v := nI 0) (pj_d p_X12_mustSign 11 rfl) rfl (by decide) ?_
      exact go false (no (fun q => c2 (key.mpr q).2))
    have q := key.mp ⟨t4, c2⟩
    refine pj_iconst (q := 18) (v := nI 1) (pj_d p_X12_mustSign 9 rfl) rfl (by decide) ?_
    refine pj_goto (t := 22) (pj_d p_X12_mustSign 10 rfl) (by decide) ?_
    refine go true ?_
    rw [gd_mu, if_pos rfl, if_pos e, gd_tb, if_pos e, if_pos q, gd_cu, if_pos q.1, if_neg (fun z => by have := gd_dg_iff.mp z; omega), ← e]
  · have eq : ∀ b, gd_mu c L b S = gd_tb c L x S := fun b => by rw [gd_mu_bad e, gd_tb, if_neg e]
    refine pj_ald0 (q := 1) (pj_d p_X12_mustSign 0 rfl) rfl ?_
    refine pj_ald0 (q := 2) (pj_d p_X12_mustSign 1 rfl) rfl ?_
    refine pj_gf (q := 5) (k := 13) (pj_d p_X12_mustSign 2 rfl) rfl kX12_102 (by first | assumption | exact pj_up_s | exact (pj_up_n (by omega)).trans (by assumption)) (by rfl) (by rfl) ?_
    refine pj_iconst (q := 6) (v := nI 4) (pj_d p_X12_mustSign 3 rfl) rfl (by decide) ?_
    refine pj_icmp_ne (t := 21) (q := 9) (pj_d p_X12_mustSign 4 rfl) rfl (by decide) (fun c1 => ?_) (fun c1 => ?_)
    · refine pj_iconst (q := 22) (v := nI 0) (pj_d p_X12_mustSign 11 rfl) rfl (by decide) ?_
      exact go false (eq false)
    refine pj_ald0 (q := 10) (pj_d p_X12_mustSign 5 rfl) rfl ?_
    refine pj_gf (q := 13) (k := 14) (pj_d p_X12_mustSign 6 rfl) rfl kX12_91 (by first | assumption | exact pj_up_s | exact (pj_up_n (by omega)).trans (by assumption)) (by rfl) (by rfl) ?_
    refine pj_ild1 (q := 14) (pj_d p_X12_mustSign 7 rfl) rfl ?_
    refine pj_icmp_ne (t := 21) (q := 17) (pj_d p_X12_mustSign 8 rfl) rfl (by decide) (fun c2 => ?_) (fun c2 => ?_)
    · refine pj_iconst (q := 22) (v := nI 0) (pj_d p_X12_mustSign 11 rfl) rfl (by decide) ?_
      exact go false (eq false)
    refine pj_iconst (q := 18) (v := nI 1) (pj_d p_X12_mustSign 9 rfl) rfl (by decide) ?_
    refine pj_goto (t := 22) (pj_d p_X12_mustSign 10 rfl) (by decide) ?_
    exact go true (eq true)
theorem c_X12_isLetter (hM : h g = some (.inr (11, gd_Mo g v))) (hc : ∀ j, c j < 256) (hS : gd_MS c L v S) (hB : gd_PB L S) {x : Nat} (hx : 97 ≤ x ∧ x ≤ 122) : pj_Ct E B l Y_X12_isLetter 1 0 0 [.ref g, .int (nI x)] h n (pj_is (some (.int (gd_b (decide (S.2.1 = 0 ∧ S.1 < L ∧ c S.1 = x))))) h n) := by
  have b2 := hB.2.1
  refine pj_in rfl (ls := [some (.ref g), some (.int (nI x))]) rfl (Nat.le_of_ble_eq_true rfl) ?_
  have no : ¬ (S.2.1 = 0 ∧ S.1 < L ∧ c S.1 = x) → pj_V E B l Y_X12_isLetter 1 0 0 27 [some (.ref g), some (.int (nI x))] [] h n 0 0 (pj_is (some (.int (gd_b (decide (S.2.1 = 0 ∧ S.1 < L ∧ c S.1 = x))))) h n) := by
    intro q
    rw [decide_eq_false q]
    refine pj_iconst (q := 28) (v := nI 0) (pj_d p_X12_isLetter 13 rfl) rfl (by decide) ?_
    refine pj_zret rfl (by first | rfl | decide | (split <;> rfl)) (pj_d p_X12_isLetter 14 rfl) (by decide) (by decide) ?_
    exact ⟨rfl, rfl, rfl⟩
  have tl := gd_tok_lt (c := c) (L := L) (p := S.1)
  have hcp := hc S.1
  refine pj_ald0 (q := 1) (pj_d p_X12_isLetter 0 rfl) rfl ?_
  refine pj_gf (q := 4) (k := 15) (pj_d p_X12_isLetter 1 rfl) rfl kX12_78 (by first | assumption | exact pj_up_s | exact (pj_up_n (by omega)).trans (by assumption)) (by rfl) (by rfl) ?_
  rw [hS.2.1]
  refine pj_if_ne (t := 27) (q := 7) (pj_d p_X12_isLetter 2 rfl) rfl (by decide) (fun c1 => ?_) (fun c1 => ?_)
  · exact no (fun q => c1 (by rw [q.1]; rfl))
  have e : S.2.1 = 0 := (nI_eq (by omega) (by omega)).mp (c1.trans nI_0.symm)
  obtain ⟨y1, y2, y3, y4⟩ := hS.2.2.1 e
  refine pj_ald0 (q := 8) (pj_d p_X12_isLetter 3 rfl) rfl ?_
  refine pj_gf (q := 11) (k := 13) (pj_d p_X12_isLetter 4 rfl) rfl kX12_102 (by first | assumption | exact pj_up_s | exact (pj_up_n (by omega)).trans (by assumption)) (by rfl) (by rfl) ?_
  rw [y3]
  refine pj_iconst (q := 12) (v := nI 2) (pj_d p_X12_isLetter 5 rfl) rfl (by decide) ?_
  refine pj_icmp_ne (t := 27) (q := 15) (pj_d p_X12_isLetter 6 rfl) rfl (by decide) (fun c2 => ?_) (fun c2 => ?_)
  · exact no (fun q => c2 (by rw [gd_tok2.mpr ⟨q.2.1, by omega⟩]))
  have t2 : gd_tok c L S.1 = 2 := (nI_eq (by omega) (by omega)).mp c2
  refine pj_ald0 (q := 16) (pj_d p_X12_isLetter 7 rfl) rfl ?_
  refine pj_gf (q := 19) (k := 14) (pj_d p_X12_isLetter 8 rfl) rfl kX12_91 (by first | assumption | exact pj_up_s | exact (pj_up_n (by omega)).trans (by assumption)) (by rfl) (by rfl) ?_
  refine pj_ild1 (q := 20) (pj_d p_X12_isLetter 9 rfl) rfl ?_
  rw [y4, gd_tv2 t2]
  refine pj_icmp_ne (t := 27) (q := 23) (pj_d p_X12_isLetter 10 rfl) rfl (by decide) (fun c3 => ?_) (fun c3 => ?_)
  · exact no (fun q => c3 (by rw [q.2.2]))
  have ex : c S.1 = x := (nI_eq (by omega) (by omega)).mp c3
  rw [decide_eq_true ⟨e, (gd_tok2.mp t2).1, ex⟩]
  refine pj_iconst (q := 24) (v := nI 1) (pj_d p_X12_isLetter 11 rfl) rfl (by decide) ?_
  refine pj_goto (t := 28) (pj_d p_X12_isLetter 12 rfl) (by decide) ?_
  refine pj_zret rfl (by first | rfl | decide | (split <;> rfl)) (pj_d p_X12_isLetter 14 rfl) (by decide) (by decide) ?_
  exact ⟨rfl, rfl, rfl⟩
theorem c_X12_number (hM : h g = some (.inr (11, gd_Mo g v))) (hb : h (g + 7) = some (.inl (0, 120, .inl (fun j => nI (c j))))) (hL : L ≤ 120) (hc : ∀ j, c j < 256) (hS : gd_MS c L v S) (hB : gd_PB L S) {lo : Nat} {hi : Int32} {hiI : Int} (hlo : lo < 1000) (hhi : hi.toInt = hiI) : pj_Ct E B l Y_X12_number 4 0 0 [.ref g, .int (nI lo), .int hi] h n (fun r h' n' => (∃ x, r = some (.int x) ∧ ((gd_tn c L lo hiI S).2.2.1 = 0 → x = nI (gd_tn c L lo hiI S).1)) ∧ n' = n ∧ ∃ v', h' = pj_up h g (.inr (11, gd_Mo g v')) ∧ gd_pv v v' ∧ gd_MS c L v' (gd_tn c L lo hiI S).2) := by
  have b2 := hB.2.1
  refine pj_in rfl (ls := [some (.ref g), some (.int (nI lo)), some (.int (hi)), none]) rfl (Nat.le_of_ble_eq_true rfl) ?_
  -- a fault: what follows changes nothing
  have bad : ∀ v1 S1, gd_pv v v1 → gd_MS c L v1 S1 → gd_PB L S1 → ¬ S1.2.1 = 0 → S1 = (gd_tn c L lo hiI S).2 → pj_V E B l Y_X12_number 4 0 0 47 [some (.ref g), some (.int (nI lo)), some (.int (hi)), none] [] (pj_up h g (.inr (11, gd_Mo g v1))) n 0 0 (fun r h' n' => (∃ x, r = some (.int x) ∧ ((gd_tn c L lo hiI S).2.2.1 = 0 → x = nI (gd_tn c L lo hiI S).1)) ∧ n' = n ∧ ∃ v', h' = pj_up h g (.inr (11, gd_Mo g v')) ∧ gd_pv v v' ∧ gd_MS c L v' (gd_tn c L lo hiI S).2) := by
    intro v1 S1 p1 s1 pb e1 eS
    have pb2 := pb.2.1
    refine pj_ald0 (q := 48) (pj_d p_X12_number 25 rfl) rfl ?_
    refine pj_gf (q := 51) (k := 15) (pj_d p_X12_number 26 rfl) rfl kX12_78 (by first | assumption | exact pj_up_s | exact (pj_up_n (by omega)).trans (by assumption)) (by rfl) (by rfl) ?_
    rw [s1.2.1]
    refine pj_if_ne (t := 61) (q := 54) (pj_d p_X12_number 27 rfl) rfl (by decide) (fun c1 => ?_) (fun c1 => ?_)
    rotate_left
    · exact absurd ((nI_eq (by omega) (by omega)).mp (c1.trans nI_0.symm)) e1
    refine pj_ild1 (q := 62) (pj_d p_X12_number 31 rfl) rfl ?_
    refine pj_ist3 (q := 63) (pj_d p_X12_number 32 rfl) rfl (by first | rfl | assumption) ?_
    refine pj_ald0 (q := 64) (pj_d p_X12_number 33 rfl) rfl ?_
    refine pj_iconst (q := 65) (v := nI 1) (pj_d p_X12_number 34 rfl) rfl (by decide) ?_
    refine pj_cv (pj_rV (q := 68) (c_X12_must (S := S1) pj_up_s ((pj_up_n (by omega)).trans hb) hL hc s1 pb true) (pj_d p_X12_number 35 rfl) rfl kX12_112 o_X12_must (by first | assumption | exact pj_up_s | exact (pj_up_n (by omega)).trans (by assumption)) (by rfl) (by rfl) (by rfl) (by rfl) (Nat.le_of_ble_eq_true rfl) (by decide)) (by decide) (by decide) ?_
    rintro r1 h1 n1 ⟨rfl, rfl, v2, rfl, p2, s2⟩
    rw [gd_mu_bad e1, eS] at s2
    rw [pj_up_up]
    refine pj_ild3 (q := 69) (pj_d p_X12_number 36 rfl) rfl ?_
    refine pj_iret rfl (pj_d p_X12_number 37 rfl) (by decide) (by decide) ?_
    exact ⟨⟨_, rfl, fun q => absurd (eS ▸ q) e1⟩, rfl, v2, rfl, fun i hi => by rw [p2 i hi, p1 i hi], s2⟩
  by_cases e : S.2.1 = 0
  rotate_left
  · have et : S = (gd_tn c L lo hiI S).2 := by rw [gd_tn, if_neg e]
    have := bad v S (fun _ _ => rfl) hS hB e et
    rw [pj_up_id hM] at this
    refine pj_ald0 (q := 1) (pj_d p_X12_number 0 rfl) rfl ?_
    refine pj_gf (q := 4) (k := 15) (pj_d p_X12_number 1 rfl) rfl kX12_78 (by first | assumption | exact pj_up_s | exact (pj_up_n (by omega)).trans (by assumption)) (by rfl) (by rfl) ?_
    rw [hS.2.1]
    refine pj_if_ne (t := 20) (q := 7) (pj_d p_X12_number 2 rfl) rfl (by decide) (fun c1 => ?_) (fun c1 => ?_)
    rotate_left
    · exact absurd ((nI_eq (by omega) (by omega)).mp (c1.trans nI_0.symm)) e
    refine pj_ald0 (q := 21) (pj_d p_X12_number 10 rfl) rfl ?_
    refine pj_gf (q := 24) (k := 15) (pj_d p_X12_number 11 rfl) rfl kX12_78 (by first | assumption | exact pj_up_s | exact (pj_up_n (by omega)).trans (by assumption)) (by rfl) (by rfl) ?_
    rw [hS.2.1]
    refine pj_if_ne (t := 47) (q := 27) (pj_d p_X12_number 12 rfl) rfl (by decide) (fun c2 => ?_) (fun c2 => ?_)
    rotate_left
    · exact absurd ((nI_eq (by omega) (by omega)).mp (c2.trans nI_0.symm)) e
    exact this
  obtain ⟨y1, y2, y3, y4⟩ := hS.2.2.1 e
  have tl := gd_tok_lt (c := c) (L := L) (p := S.1)
  refine pj_ald0 (q := 1) (pj_d p_X12_number 0 rfl) rfl ?_
  refine pj_gf (q := 4) (k := 15) (pj_d p_X12_number 1 rfl) rfl kX12_78 (by first | assumption | exact pj_up_s | exact (pj_up_n (by omega)).trans (by assumption)) (by rfl) (by rfl) ?_
  rw [hS.2.1]
  refine pj_if_ne (t := 20) (q := 7) (pj_d p_X12_number 2 rfl) rfl (by decide) (fun c1 => ?_) (fun c1 => ?_)
  · exact absurd (by rw [e]; rfl) c1
  refine pj_ald0 (q := 8) (pj_d p_X12_number 3 rfl) rfl ?_
  refine pj_gf (q := 11) (k := 13) (pj_d p_X12_number 4 rfl) rfl kX12_102 (by first | assumption | exact pj_up_s | exact (pj_up_n (by omega)).trans (by assumption)) (by rfl) (by rfl) ?_
  rw [y3]
  refine pj_iconst (q := 12) (v := nI 3) (pj_d p_X12_number 5 rfl) rfl (by decide) ?_
  refine pj_icmp_eq (t := 20) (q := 15) (pj_d p_X12_number 6 rfl) rfl (by decide) (fun c2 => ?_) (fun c2 => ?_)
  rotate_left
  · have nf : ¬ (gd_fg c L S.1 = 1 ∨ gd_fg c L S.1 = 2) := fun q => c2 (by rw [gd_tok3.mpr q])
    have et : gd_fa S S.1 1 = (gd_tn c L lo hiI S).2 := by rw [gd_tn, if_pos e, if_neg nf, gd_fa, if_pos e]
    refine pj_ald0 (q := 16) (pj_d p_X12_number 7 rfl) rfl ?_
    refine pj_iconst (q := 17) (v := nI 1) (pj_d p_X12_number 8 rfl) rfl (by decide) ?_
    refine pj_cv (pj_rV (q := 20) (c_X12_bad hM hS hB (k := 1) (by decide)) (pj_d p_X12_number 9 rfl) rfl kX12_105 o_X12_bad (by first | assumption | exact pj_up_s | exact (pj_up_n (by omega)).trans (by assumption)) (by rfl) (by rfl) (by rfl) (by rfl) (Nat.le_of_ble_eq_true rfl) (by decide)) (by decide) (by decide) ?_
    rintro r1 h1 n1 ⟨rfl, rfl, v1, rfl, p1, s1⟩
    have pb := gd_PB_fa (w := S.1) (k := 1) hB hB.1 (by omega)
    have pb2 := pb.2.1
    have ne : ¬ (gd_fa S S.1 1).2.1 = 0 := fun q => gd_fa_ok (by decide) q
    refine pj_ald0 (q := 21) (pj_d p_X12_number 10 rfl) rfl ?_
    refine pj_gf (q := 24) (k := 15) (pj_d p_X12_number 11 rfl) rfl kX12_78 (by first | assumption | exact pj_up_s | exact (pj_up_n (by omega)).trans (by assumption)) (by rfl) (by rfl) ?_
    rw [s1.2.1]
    refine pj_if_ne (t := 47) (q := 27) (pj_d p_X12_number 12 rfl) rfl (by decide) (fun c3 => ?_) (fun c3 => ?_)
    rotate_left
    · exact absurd ((nI_eq (by omega) (by omega)).mp (c3.trans nI_0.symm)) ne
    exact bad v1 _ p1 s1 pb ne et
  have t3 : gd_tok c L S.1 = 3 := (nI_eq (by omega) (by omega)).mp c2
  have ff := gd_tok3.mp t3
  obtain ⟨z1, z2⟩ := gd_tvcu3 ff
  have vl := gd_nv_lt (p := S.1) (m := gd_fg c L S.1) hc
  refine pj_ald0 (q := 21) (pj_d p_X12_number 10 rfl) rfl ?_
  refine pj_gf (q := 24) (k := 15) (pj_d p_X12_number 11 rfl) rfl kX12_78 (by first | assumption | exact pj_up_s | exact (pj_up_n (by omega)).trans (by assumption)) (by rfl) (by rfl) ?_
  rw [hS.2.1]
  refine pj_if_ne (t := 47) (q := 27) (pj_d p_X12_number 12 rfl) rfl (by decide) (fun c3 => ?_) (fun c3 => ?_)
  · exact absurd (by rw [e]; rfl) c3
  refine pj_ald0 (q := 28) (pj_d p_X12_number 13 rfl) rfl ?_
  refine pj_gf (q := 31) (k := 14) (pj_d p_X12_number 14 rfl) rfl kX12_91 (by first | assumption | exact pj_up_s | exact (pj_up_n (by omega)).trans (by assumption)) (by rfl) (by rfl) ?_
  rw [y4, z1]
  refine pj_i2l (q := 32) (pj_d p_X12_number 15 rfl) rfl ?_
  refine pj_ild1 (q := 33) (pj_d p_X12_number 16 rfl) rfl ?_
  refine pj_i2l (q := 34) (pj_d p_X12_number 17 rfl) rfl ?_
  refine pj_ild2 (q := 35) (pj_d p_X12_number 18 rfl) rfl ?_
  refine pj_i2l (q := 36) (pj_d p_X12_number 19 rfl) rfl ?_
  refine pj_cp (pj_rS (q := 39) (c_X12_in (nI (gd_nv c S.1 (gd_fg c L S.1))) (nI lo).toInt64 hi.toInt64 lo hiI (by rw [Int32.toInt_toInt64, nI_toInt (by omega)]) (by rw [Int32.toInt_toInt64, hhi])) (pj_d p_X12_number 20 rfl) rfl kX12_57 o_X12_in (by rfl) (by rfl) (Nat.le_of_ble_eq_true rfl) (by decide)) (by decide) (by decide) ?_
  rw [gd_rng_nI (by omega)]
  refine pj_if_ne (t := 47) (q := 42) (pj_d p_X12_number 21 rfl) rfl (by decide) (fun c4 => ?_) (fun c4 => ?_)
  rotate_left
  · have nr := gd_dec_f c4
    have et : gd_fa S S.1 2 = (gd_tn c L lo hiI S).2 := by rw [gd_tn, if_pos e, if_pos ff, if_neg (by omega), gd_fa, if_pos e]
    refine pj_ald0 (q := 43) (pj_d p_X12_number 22 rfl) rfl ?_
    refine pj_iconst (q := 44) (v := nI 2) (pj_d p_X12_number 23 rfl) rfl (by decide) ?_
    refine pj_cv (pj_rV (q := 47) (c_X12_bad hM hS hB (k := 2) (by decide)) (pj_d p_X12_number 24 rfl) rfl kX12_105 o_X12_bad (by first | assumption | exact pj_up_s | exact (pj_up_n (by omega)).trans (by assumption)) (by rfl) (by rfl) (by rfl) (by rfl) (Nat.le_of_ble_eq_true rfl) (by decide)) (by decide) (by decide) ?_
    rintro r1 h1 n1 ⟨rfl, rfl, v1, rfl, p1, s1⟩
    exact bad v1 _ p1 s1 (gd_PB_fa (w := S.1) (k := 2) hB hB.1 (by omega)) (fun q => gd_fa_ok (by decide) q) et
  have nr := gd_dec_t c4
  have et : gd_tn c L lo hiI S = (gd_nv c S.1 (gd_fg c L S.1), (S.1 + gd_fg c L S.1, 0, S.2.2)) := by rw [gd_tn, if_pos e, if_pos ff, if_pos (by omega)]
  have em : gd_mu c L true S = (S.1 + gd_fg c L S.1, 0, S.2.2) := by rw [gd_mu, if_pos rfl, if_pos e, z2, ← e]
  refine pj_ald0 (q := 48) (pj_d p_X12_number 25 rfl) rfl ?_
  refine pj_gf (q := 51) (k := 15) (pj_d p_X12_number 26 rfl) rfl kX12_78 (by first | assumption | exact pj_up_s | exact (pj_up_n (by omega)).trans (by assumption)) (by rfl) (by rfl) ?_
  rw [hS.2.1]
  refine pj_if_ne (t := 61) (q := 54) (pj_d p_X12_number 27 rfl) rfl (by decide) (fun c5 => ?_) (fun c5 => ?_)
  · exact absurd (by rw [e]; rfl) c5
  refine pj_ald0 (q := 55) (pj_d p_X12_number 28 rfl) rfl ?_
  refine pj_gf (q := 58) (k := 14) (pj_d p_X12_number 29 rfl) rfl kX12_91 (by first | assumption | exact pj_up_s | exact (pj_up_n (by omega)).trans (by assumption)) (by rfl) (by rfl) ?_
  rw [y4, z1]
  refine pj_goto (t := 62) (pj_d p_X12_number 30 rfl) (by decide) ?_
  refine pj_ist3 (q := 63) (pj_d p_X12_number 32 rfl) rfl (by first | rfl | assumption) ?_
  refine pj_ald0 (q := 64) (pj_d p_X12_number 33 rfl) rfl ?_
  refine pj_iconst (q := 65) (v := nI 1) (pj_d p_X12_number 34 rfl) rfl (by decide) ?_
  refine pj_cv (pj_rV (q := 68) (c_X12_must hM hb hL hc hS hB true) (pj_d p_X12_number 35 rfl) rfl kX12_112 o_X12_must (by first | assumption | exact pj_up_s | exact (pj_up_n (by omega)).trans (by assumption)) (by rfl) (by rfl) (by rfl) (by rfl) (Nat.le_of_ble_eq_true rfl) (by decide)) (by decide) (by decide) ?_
  rintro r1 h1 n1 ⟨rfl, rfl, v1, rfl, p1, s1⟩
  rw [em] at s1
  refine pj_ild3 (q := 69) (pj_d p_X12_number 36 rfl) rfl ?_
  refine pj_iret rfl (pj_d p_X12_number 37 rfl) (by decide) (by decide) ?_
  rw [et]
  exact ⟨⟨_, rfl, fun _ => rfl⟩, rfl, v1, rfl, p1, s1⟩
theorem c_X12_begin (hM : h g = some (.inr (11, gd_Mo g v))) (hb : h (g + 7) = some (.inl (0, 120, .inl (fun j => nI (c j))))) (hL : L ≤ 120) (hc : ∀ j, c j < 256) (h10 : v 10 = nI L) : pj_Ct E B l Y_X12_begin 3 0 0 [.ref g] h n (gd_MU c L (0, 0, 0) v h g n) := by
  refine pj_in rfl (ls := [some (.ref g)]) rfl (Nat.le_of_ble_eq_true rfl) ?_
  refine pj_ald0 (q := 1) (pj_d p_X12_begin 0 rfl) rfl ?_
  refine pj_iconst (q := 2) (v := nI 0) (pj_d p_X12_begin 1 rfl) rfl (by decide) ?_
  refine pj_pf (q := 5) (k := 11) (fs' := gd_Mo g (upd v 11 (nI 0))) (pj_d p_X12_begin 2 rfl) rfl kX12_87 (by first | assumption | exact pj_up_s | exact (pj_up_n (by omega)).trans (by assumption)) (by rfl) (Or.inl rfl) (by rfl) (by rfl) (by rfl) (by show 11 < 24; decide) (by rfl) ?_
  refine pj_ald0 (q := 6) (pj_d p_X12_begin 3 rfl) rfl ?_
  refine pj_iconst (q := 7) (v := nI 0) (pj_d p_X12_begin 4 rfl) rfl (by decide) ?_
  refine pj_pf (q := 10) (k := 15) (fs' := gd_Mo g (upd (upd v 11 (nI 0)) 15 (nI 0))) (pj_d p_X12_begin 5 rfl) rfl kX12_78 (by first | assumption | exact pj_up_s | exact (pj_up_n (by omega)).trans (by assumption)) (by rfl) (Or.inl rfl) (by rfl) (by rfl) (by rfl) (by show 15 < 24; decide) (by rfl) ?_
  rw [pj_up_up]
  have k1 : ∀ i, i ≠ 11 → i ≠ 15 → upd (upd v 11 (nI 0)) 15 (nI 0) i = v i := fun i h1 h2 => by rw [gd_upd_n h2, gd_upd_n h1]
  have k2 : upd (upd v 11 (nI 0)) 15 (nI 0) 11 = nI 0 := rfl
  have k3 : upd (upd v 11 (nI 0)) 15 (nI 0) 15 = nI 0 := rfl
  generalize upd (upd v 11 (nI 0)) 15 (nI 0) = v1 at k1 k2 k3 ⊢
  refine pj_ald0 (q := 11) (pj_d p_X12_begin 6 rfl) rfl ?_
  refine pj_cv (pj_rV (q := 14) (c_X12_nextToken (p := 0) pj_up_s ((pj_up_n (by omega)).trans hb) hL hc (by rw [k1 10 (by omega) (by omega)]; exact h10) k2 (Nat.zero_le _)) (pj_d p_X12_begin 7 rfl) rfl kX12_109 o_X12_nextToken (by first | assumption | exact pj_up_s | exact (pj_up_n (by omega)).trans (by assumption)) (by rfl) (by rfl) (by rfl) (by rfl) (Nat.le_of_ble_eq_true rfl) (by decide)) (by decide) (by decide) ?_
  rintro r1 h1 n1 ⟨rfl, rfl, v2, rfl, q1⟩
  rw [pj_up_up]
  refine pj_vret rfl (pj_d p_X12_begin 8 rfl) (by decide) (by decide) ?_
  exact ⟨rfl, rfl, v2, rfl, fun i hi => by rw [q1.1 i (by omega), k1 i (by omega) (by omega)], q1.2.1, by rw [q1.1 15 (by omega)]; exact k3, fun _ => ⟨q1.2.2.1, q1.2.2.2.1, q1.2.2.2.2⟩, fun q => absurd rfl q⟩
end
