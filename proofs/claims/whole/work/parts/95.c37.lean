/-! ===== ahead with a lapse: alike ===== -/
section EQ6
variable {S : Sx} {d : HD} {m : Nat} {wv : Nat → Nat × Nat}
theorem rLap_r {f : Row} {s r : Nat} (hs : s < 8) (h10 : dNr d ≤ 10) (hr : r < dNr d) : rLap d s f (16 + r) = if dOw d r = s ∧ f (16 + r) ≠ -1 then f (16 + r) / 2 else f (16 + r) := by
  show upd (lapF d s (dNr d) f) (8 + s) (f (8 + s) + 1) (16 + r) = _
  rw [pk_un (by omega)]
  unfold lapF
  rw [show 16 + r - 16 = r by omega]
  by_cases e : dOw d r = s ∧ f (16 + r) ≠ -1
  · rw [if_pos e, if_pos ⟨by omega, by omega, e⟩]
  · rw [if_neg e, if_neg (fun z => e z.2.2)]
theorem pw_l (hv : HV d) {f : Row} (hD : DT d f) {r n : Nat} (hr : r < dNr d) (hn : n ≤ 1000) (hK : f (16 + r) ≠ -1 → f (0 + dOw d r) = 0) : pwN d m wv (rDk (dNr d) n (if f (0 + dOw d r) = 0 ∧ kM d f (dOw d r) ≠ 0 then rLap d (dOw d r) f else f)) r = pwX d m wv f r (f (16 + r) / 2 + nI n) (f (8 + dOw d r) + 1) (f 44 + nI n) := by
  have h10 : dNr d ≤ 10 := hv.2.1
  have h8 : dNs d ≤ 8 := hv.1
  have ho : dOw d r < dNs d := (hv.2.2.2.2.2.1 r hr).1
  obtain ⟨D, d1, d2, d3⟩ := id hD
  have hDl : DT d (rLap d (dOw d r) f) := by
    refine ⟨D, d1, ?_, DB_lap d3 (by omega) (by omega)⟩
    show upd (lapF d (dOw d r) (dNr d) f) (8 + dOw d r) (f (8 + dOw d r) + 1) 44 = nI D
    rw [pk_un (by omega)]
    unfold lapF
    rw [if_neg (by omega)]
    exact d2
  have nz : ∀ i, i < dNr d → f (16 + i) ≠ -1 → f (16 + i) / 2 ≠ -1 := fun i hi hne => by
    rcases d3 i hi with e | ⟨q, q1, e⟩
    · exact absurd e hne
    · rw [e, show (2 : Int32) = nI 2 from rfl, pk_div (by omega) (by omega) (by omega)]
      exact nI_nm (by omega)
  by_cases e : f (16 + r) = -1
  · have hR : pwX d m wv f r (f (16 + r) / 2 + nI n) (f (8 + dOw d r) + 1) (f 44 + nI n) = 0 := if_neg (fun z => z e)
    rw [hR]
    split
    · rw [pw_k hv hDl hn hr]
      exact if_neg (fun z => z (by rw [rLap_r (by omega) h10 hr, if_neg (fun y => y.2 e)]; exact e))
    · rw [pw_k hv hD hn hr]
      exact if_neg (fun z => z e)
  · have hk : kM d f (dOw d r) ≠ 0 := fun z => by
      have := bt_msk (fun i => decide (dOw d i = dOw d r ∧ f (16 + i) ≠ -1)) (dNr d) (by omega) r
      rw [show msk (fun i => decide (dOw d i = dOw d r ∧ f (16 + i) ≠ -1)) (dNr d) = 0 from z, bt_0, decide_eq_true hr, Bool.true_and, decide_eq_true ⟨rfl, e⟩] at this
      cases this
    rw [if_pos ⟨hK e, hk⟩, pw_k hv hDl hn hr]
    have r1 : rLap d (dOw d r) f (16 + r) = f (16 + r) / 2 := by rw [rLap_r (by omega) h10 hr, if_pos ⟨rfl, e⟩]
    have r2 : rLap d (dOw d r) f (8 + dOw d r) = f (8 + dOw d r) + 1 := pk_us
    have r3 : rLap d (dOw d r) f 44 = f 44 := by
      show upd (lapF d (dOw d r) (dNr d) f) (8 + dOw d r) (f (8 + dOw d r) + 1) 44 = _
      rw [pk_un (by omega)]
      unfold lapF
      rw [if_neg (by omega)]
    have r4 : kM d (rLap d (dOw d r) f) (dOw d r) = kM d f (dOw d r) := msk_congr (fun i hi => decide_eq_decide.mpr (by
      rw [rLap_r (by omega) h10 hi]
      by_cases z : dOw d i = dOw d r ∧ f (16 + i) ≠ -1
      · rw [if_pos z]
        exact ⟨fun _ => z, fun _ => ⟨z.1, nz i hi z.2⟩⟩
      · rw [if_neg z]))
    unfold pwX pwA
    rw [r1, r2, r3, r4, if_pos (nz r hr e), if_pos e]
end EQ6
