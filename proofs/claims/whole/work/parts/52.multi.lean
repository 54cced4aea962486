/-! ===== rows of rows; the constructors ===== -/
theorem gd_outer (c : ClassId) (N h0 : Nat) : ∀ i : Nat, Jvm.Free.Multi.outerC c N h0 i = arrV c N (fun j => va_rf (if j < i then some (h0 + 1 + j) else none))
  | 0 => by
    show ({ cls := c, slots := Array.replicate N .null, vm := .none } : Cell) = _
    rw [arrV_new]
    refine congrArg (arrV c N) (funext fun j => ?_)
    rw [if_neg (Nat.not_lt_zero j)]
    rfl
  | i + 1 => by
    show (Jvm.Free.Multi.outerC c N h0 i).setSlot i (.ref (h0 + 1 + i)) = _
    rw [gd_outer c N h0 i, arrV_store]
    refine congrArg (arrV c N) (funext fun j => ?_)
    by_cases e : j = i
    · rw [e, if_pos (by omega)]
      exact if_pos rfl
    · refine (if_neg e).trans ?_
      show va_rf (if j < i then some (h0 + 1 + j) else none) = _
      by_cases z : j < i
      · rw [if_pos z, if_pos (by omega)]
      · rw [if_neg z, if_neg (by omega)]
def gd_mn (h : pj_H) (n N K : Nat) : pj_H := fun q => if q = n then some (.inl (4, N, .inr (.inr (.inr (.inr (fun j => if j < N then some (n + 1 + j) else none)))))) else if n < q ∧ q ≤ n + N then some (.inl (0, K, .inl (fun _ => 0))) else h q
section
variable {E : pj_E} {B : Nat} {l : Launch} {Y : pj_Y} {d mc ms pc q : Nat} {ls : List (Option Value)} {st : List Value} {h : pj_H} {n ce sl : Nat} {Q : Option Value → pj_H → Nat → Prop}
theorem pj_mna {i N K : Nat} (hl : Cond.classLink Y.1.cls i "[[I" ∈ lw_tbl) (hd : decode Y.2.1 pc = .ok (.multianewarray i 2, 4)) (hq : pc + 4 = q) (hN : N ≤ 1000) (hK : K ≤ 1000) (hB : B ≤ n) (hce : ce + (1 + N) ≤ mc) (hsl : sl + (N + N * K) ≤ ms) (kk : pj_V E B l Y d mc ms q ls (.ref n :: st) (gd_mn h n N K) (n + 1 + N) (ce + 1 + N) (sl + N + N * K) Q) : pj_V E B l Y d mc ms pc ls (.int (nI K) :: .int (nI N) :: st) h n ce sl Q := by
  subst hq
  intro p e s m args below meth c H locs la S hr hk hn hW hH hS hL T hT Xs
  have cN : (nI N).toNatClampNeg = N := nI_clamp (by omega)
  have cK : (nI K).toNatClampNeg = K := nI_clamp (by omega)
  have es : ("[" ++ (FieldType.array .int).toString) = "[[I" := by decide
  obtain ⟨vm₁, cA, comp, -, fA, fC, -, -, X', step⟩ := Xs.multianewarray2F (ty := .int) S.1 S.2.2.2.1 (by rw [es]; exact S.2.2.2.2 _ hl) (S.2.2.2.2 _ ao_int) (S.2.2.2.2 _ ac_int) (g := F0 m pc la (.int (nI K) :: .int (nI N) :: st)) rfl (by rw [S.2.1]; exact hd) rfl (nI_pos (by omega)) (nI_pos (by omega)) (by rw [cN]; omega) (by rw [cK]; show K * 4 ≤ _; omega) (by rw [cK]; omega) (by decide) (by decide) (by rw [cN]; exact hce) (by rw [cN, cK]; exact hsl)
  rw [cN, cK] at X' step
  have hcA : cA = E.2 4 := Option.some.inj (fA.symm.trans (pj_ty hW (t := 4) rfl).2)
  have hcC : comp = E.2 0 := Option.some.inj (fC.symm.trans (pj_ty hW (t := 0) rfl).2)
  subst hcA
  subst hcC
  generalize hF : Jvm.Free.Multi.fill (T.setVm vm₁) (E.2 4) (E.2 0) N K (defaultValue .int) N = F at X' step
  have hTh : (T.setVm vm₁).heap = H := hT
  obtain ⟨f1, f2, -, -⟩ := Jvm.Free.Multi.fill_facts (T.setVm vm₁) (E.2 4) (E.2 0) N K (defaultValue .int) N
  rw [hF, hTh, hH.1] at f1 f2
  have hold : ∀ x : Nat, x < n → F.heap[x]? = H[x]? := fun x hx => by
    have := Jvm.Free.Multi.fill_old (T.setVm vm₁) (E.2 4) (E.2 0) N K (defaultValue .int) (a := x) (by rw [hTh, hH.1]; exact hx) N
    rw [hF, hTh] at this
    exact this
  have hrow : ∀ j : Nat, j < N → F.heap[n + 1 + j]? = some (vp_cell (E.2 0) (K, .inl (fun _ => 0))) := fun j hj => by
    have := Jvm.Free.Multi.fill_inner (T.setVm vm₁) (E.2 4) (E.2 0) N K (defaultValue .int) N j hj
    rw [hF, hTh, hH.1] at this
    rw [this, vp_cell_i, ← arrV_new]
    rfl
  have hH' : pj_HR E B (gd_mn h n N K) (n + 1 + N) F.heap := by
    refine ⟨f1, fun a cc ha => ?_⟩
    unfold gd_mn at ha
    by_cases e1 : a = n
    · rw [if_pos e1] at ha
      cases ha
      refine ⟨by omega, ?_⟩
      show F.heap[a]? = some (vp_cell (E.2 4) _)
      rw [e1, f2, gd_outer, vp_cell_q]
    · rw [if_neg e1] at ha
      by_cases e2 : n < a ∧ a ≤ n + N
      · rw [if_pos e2] at ha
        cases ha
        refine ⟨by omega, ?_⟩
        show F.heap[a]? = some (vp_cell (E.2 0) _)
        have := hrow (a - n - 1) (by omega)
        rw [show n + 1 + (a - n - 1) = a by omega] at this
        exact this
      · rw [if_neg e2] at ha
        exact ⟨(hH.2 a cc ha).1, (hH.2 a cc ha).2.kept (hold a (hH.lt ha))⟩
  obtain ⟨t, a1, b1⟩ := kk p e s m args below meth c F.heap locs la S hr hk hn hW hH' (pj_S_push hS hH.1 (by rw [f1]; omega) hold) hL F rfl X'
  refine ⟨t, step t ?_, b1⟩
  have e : T.heap.size = n := by rw [hT]; exact hH.1
  rw [e]
  exact a1
end
