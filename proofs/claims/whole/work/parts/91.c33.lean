/-! ===== days ahead ===== -/
def rDk (nr : Nat) : Nat → Row → Row
  | 0, f => f
  | k + 1, f => rDay nr (rDk nr k f)
theorem rDk_o {nr k j : Nat} {f : Row} (h10 : nr ≤ 10) (h1 : j < 16 ∨ 36 ≤ j) (h2 : j ≠ 44) : rDk nr k f j = f j := by
  induction k with
  | zero => rfl
  | succ k ih =>
    show upd (dayF nr (rDk nr k f)) 44 (rDk nr k f 44 + 1) j = f j
    rw [pk_un h2]
    unfold dayF
    rw [if_neg (by omega), if_neg (by omega)]
    exact ih
theorem rDk_44 {nr k : Nat} {f : Row} : rDk nr k f 44 = f 44 + nI k := by
  induction k with
  | zero => exact (Int32.add_zero _).symm
  | succ k ih =>
    show upd (dayF nr (rDk nr k f)) 44 (rDk nr k f 44 + 1) 44 = _
    rw [pk_us, ih, Int32.add_assoc, nI_1]
theorem rDk_r {nr k r : Nat} {f : Row} (h10 : nr ≤ 10) (hr : r < nr) (hf : f (16 + r) = -1 ∨ ∃ q, q ≤ 500 ∧ f (16 + r) = nI q) (hk : k ≤ 1000) : rDk nr k f (16 + r) = if f (16 + r) = -1 then -1 else f (16 + r) + nI k := by
  induction k with
  | zero =>
    show f (16 + r) = _
    split
    · assumption
    · exact (Int32.add_zero _).symm
  | succ k ih =>
    have ih := ih (by omega)
    show upd (dayF nr (rDk nr k f)) 44 (rDk nr k f 44 + 1) (16 + r) = _
    rw [pk_un (by omega)]
    unfold dayF
    rw [if_pos (by omega), ih]
    rcases hf with e | ⟨q, q1, e⟩
    · rw [if_pos e, if_pos e, if_neg (by decide)]
      exact Int32.add_zero _
    · have e1 : ¬ f (16 + r) = -1 := by rw [e]; exact nI_nm (by omega)
      rw [if_neg e1, if_neg e1, e, nI_add, if_pos (nI_nm (by omega)), nI_1, nI_add]
      rfl
theorem kM_k {d : HD} (hv : HV d) {f : Row} (hD : DT d f) {k s : Nat} (hk : k ≤ 1000) : kM d (rDk (dNr d) k f) s = kM d f s := by
  have h10 : dNr d ≤ 10 := hv.2.1
  obtain ⟨D, d1, d2, d3⟩ := hD
  refine msk_congr (fun r hr => decide_eq_decide.mpr ?_)
  have hf : f (16 + r) = -1 ∨ ∃ q, q ≤ 500 ∧ f (16 + r) = nI q := (d3 r hr).imp id (fun ⟨q, h1, h2⟩ => ⟨q, by omega, h2⟩)
  rw [rDk_r h10 hr hf hk]
  rcases hf with e | ⟨q, q1, e⟩
  · rw [if_pos e, e]
  · have e1 : ¬ f (16 + r) = -1 := by rw [e]; exact nI_nm (by omega)
    rw [if_neg e1, e, nI_add]
    exact ⟨fun z => ⟨z.1, nI_nm (by omega)⟩, fun z => ⟨z.1, nI_nm (by omega)⟩⟩
theorem pw_k {d : HD} (hv : HV d) {m : Nat} {wv : Nat → Nat × Nat} {f : Row} (hD : DT d f) {k r : Nat} (hk : k ≤ 1000) (hr : r < dNr d) : pwN d m wv (rDk (dNr d) k f) r = pwX d m wv f r (f (16 + r) + nI k) (f (8 + dOw d r)) (f 44 + nI k) := by
  have h10 : dNr d ≤ 10 := hv.2.1
  have h8 : dNs d ≤ 8 := hv.1
  have ho : dOw d r < dNs d := (hv.2.2.2.2.2.1 r hr).1
  have hD' := hD
  obtain ⟨D, d1, d2, d3⟩ := hD'
  have hf : f (16 + r) = -1 ∨ ∃ q, q ≤ 500 ∧ f (16 + r) = nI q := (d3 r hr).imp id (fun ⟨q, h1, h2⟩ => ⟨q, by omega, h2⟩)
  unfold pwN pwX pwA
  rw [kM_k hv hD hk, rDk_44, rDk_o (j := 8 + dOw d r) h10 (by omega) (by omega), rDk_r h10 hr hf hk]
  rcases hf with e | ⟨q, q1, e⟩
  · rw [if_pos e, if_neg (fun z => z rfl), if_neg (fun z => z e)]
  · have e1 : ¬ f (16 + r) = -1 := by rw [e]; exact nI_nm (by omega)
    rw [if_neg e1, if_pos (show f (16 + r) + nI k ≠ -1 by rw [e, nI_add]; exact nI_nm (by omega)), if_pos e1]
