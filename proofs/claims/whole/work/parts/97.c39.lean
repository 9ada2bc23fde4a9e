/-! ===== a kept relic's owner lives ===== -/
def KA (d : HD) (f : Row) : Prop := ∀ r, r < dNr d → f (16 + r) ≠ -1 → f (0 + dOw d r) = 0
theorem KA_do {d : HD} {m : Nat} {wv : Nat → Nat × Nat} {f : Row} {q : Q4} (h : KA d f) (h01 : ∀ s, s < dNs d → f (0 + s) = 0 ∨ f (0 + s) = 1) (hD : DT d f) (hv : HV d) (hq : okq d q) (h6 : q.1 ≠ 6) : KA d (doA d m wv f q).1 := by
  have h10 : dNr d ≤ 10 := hv.2.1
  have h8 : dNs d ≤ 8 := hv.1
  have ow : ∀ r, r < dNr d → dOw d r < dNs d := fun r hr => (hv.2.2.2.2.2.1 r hr).1
  obtain ⟨k, x, y, e⟩ := q
  obtain ⟨q1, q2, q3, q4, -⟩ := hq
  dsimp only at *
  obtain rfl | rfl | rfl | rfl | rfl | rfl : k = 0 ∨ k = 1 ∨ k = 2 ∨ k = 3 ∨ k = 4 ∨ k = 5 := by omega
  · have hx := q2 (Or.inl rfl)
    show KA d (if f (16 + x) ≠ -1 ∨ f (0 + dOw d x) = 1 then (f, false) else (upd f (16 + x) 0, true)).1
    split
    · exact h
    · next z =>
      intro r hr hne
      have := ow r hr
      show upd f (16 + x) 0 (0 + dOw d r) = 0
      rw [pk_un (by omega)]
      by_cases c : r = x
      · subst c
        exact (h01 _ (ow r hr)).resolve_right (fun y => z (Or.inr y))
      · have hne : upd f (16 + x) 0 (16 + r) ≠ -1 := hne
        rw [pk_un (by omega)] at hne
        exact h r hr hne
  · have hx := q2 (Or.inr (Or.inl rfl))
    show KA d (if f (16 + x) ≠ -1 then (upd f (16 + x) (-1), true) else (f, false)).1
    split
    · intro r hr hne
      have := ow r hr
      show upd f (16 + x) (-1) (0 + dOw d r) = 0
      rw [pk_un (by omega)]
      by_cases c : r = x
      · subst c
        exact absurd pk_us hne
      · have hne : upd f (16 + x) (-1) (16 + r) ≠ -1 := hne
        rw [pk_un (by omega)] at hne
        exact h r hr hne
    · exact h
  · have hx := q3 (Or.inl rfl)
    show KA d (if f (0 + x) = 0 ∧ kM d f x ≠ 0 then (rLap d x f, true) else (f, false)).1
    split
    · intro r hr hne
      have := ow r hr
      have e1 : rLap d x f (0 + dOw d r) = f (0 + dOw d r) := by
        show upd (lapF d x (dNr d) f) (8 + x) (f (8 + x) + 1) (0 + dOw d r) = _
        rw [pk_un (by omega)]
        unfold lapF
        rw [if_neg (by omega)]
      show rLap d x f (0 + dOw d r) = 0
      rw [e1]
      refine h r hr (fun z => hne ?_)
      show rLap d x f (16 + r) = -1
      rw [rLap_r (by omega) h10 hr, if_neg (fun y => y.2 z)]
      exact z
    · exact h
  · have hx := q2 (Or.inr (Or.inr rfl))
    have hy := q4 rfl
    have h88 : dNp d ≤ 8 := hv.2.2.1
    show KA d (if f (36 + y) = -1 ∧ f (26 + x) = 0 ∧ dIl d x = dPi d y ∧ nI (dPn d y) ≤ pwN d m wv f x then (rCur x y f, true) else (f, false)).1
    split
    · intro r hr hne
      have := ow r hr
      have hne : upd (upd f (36 + y) (nI x)) (26 + x) 1 (16 + r) ≠ -1 := hne
      rw [pk_un (by omega), pk_un (by omega)] at hne
      show upd (upd f (36 + y) (nI x)) (26 + x) 1 (0 + dOw d r) = 0
      rw [pk_un (by omega), pk_un (by omega)]
      exact h r hr hne
    · exact h
  · have hx := q3 (Or.inr rfl)
    show KA d (if f (0 + x) = 1 then (f, false) else (rDie d x f, true)).1
    split
    · exact h
    · intro r hr hne
      have := ow r hr
      have hne : upd (dieF d x (dNr d) f) (0 + x) 1 (16 + r) ≠ -1 := hne
      rw [pk_un (by omega)] at hne
      unfold dieF at hne
      rw [show 16 + r - 16 = r by omega] at hne
      have c : ¬ dOw d r = x := fun z => by rw [if_pos ⟨by omega, by omega, z⟩] at hne; exact hne rfl
      rw [if_neg (fun z => c z.2.2)] at hne
      show upd (dieF d x (dNr d) f) (0 + x) 1 (0 + dOw d r) = 0
      rw [pk_un (by omega)]
      unfold dieF
      rw [if_neg (by omega)]
      exact h r hr hne
  · show KA d (if 500 ≤ f 44 then (f, false) else (rDay (dNr d) f, true)).1
    split
    · exact h
    · intro r hr hne
      have := ow r hr
      have e1 : rDay (dNr d) f (0 + dOw d r) = f (0 + dOw d r) := rDk_o (k := 1) h10 (by omega) (by omega)
      show rDay (dNr d) f (0 + dOw d r) = 0
      rw [e1]
      refine h r hr (fun z => hne ?_)
      have := rDk_r (k := 1) (f := f) h10 hr (Or.inl z) (by decide)
      rw [if_pos z] at this
      exact this
