/-! ===== ahead and when: alike ===== -/
section EQ3
variable {S : Sx} {d : HD} {m : Nat} {wv : Nat → Nat × Nat}
theorem dyN_A (S : Sx) {nr : Nat} (h : nr ≤ 10) : ∀ k, dyN S 536 nr k = sAA S 536 (rDk nr k (sa S 536))
  | 0 => (sAA_self S 536).symm
  | k + 1 => by
    show dyE (dyN S 536 nr k) 536 nr = _
    rw [dyN_A S h k, dyE_A _ _ h, sAA_s, sAA_sAA]
    rfl
theorem tr_536 (S : Sx) {k : Nat} (hk : k < 45) : sa (trS S) 536 k = sa S 535 k := by
  show sa (cpS (S0 S) 535 536 45) 536 k = _
  rw [cpS_s (S0 S) (by decide), if_pos hk]
  rfl
theorem HG_tr (hG : HG S d) (hv : HV d) : HG (trS S) d := HG_cg hG hv (fun a ha => cpS_o (S0 S) (by have := hgR_lt ha; omega) 45)
theorem DT_cg {f f' : Row} (hv : HV d) (h : ∀ k, k < 45 → f' k = f k) (hD : DT d f) : DT d f' := by
  obtain ⟨D, d1, d2, d3⟩ := hD
  have h10 : dNr d ≤ 10 := hv.2.1
  refine ⟨D, d1, (h 44 (by decide)).trans d2, fun r hr => ?_⟩
  rw [h (16 + r) (by omega)]
  exact d3 r hr
theorem pwX_cg {f f' : Row} (hv : HV d) (h : ∀ k, k < 45 → f' k = f k) {r : Nat} (hr : r < dNr d) (x y z : Int32) : pwX d m wv f' r x y z = pwX d m wv f r x y z := by
  have h10 : dNr d ≤ 10 := hv.2.1
  unfold pwX pwA
  rw [h (16 + r) (by omega), show kM d f' (dOw d r) = kM d f (dOw d r) from msk_congr (fun i hi => by rw [h (16 + i) (by omega)])]
theorem ah_e (hG : HG S d) (hv : HV d) (hD : DT d (sa S 535)) {r n : Nat} (hr : r < dNr d) (hn : n ≤ 1000) : pwN d m wv (sa (dyN (trS S) 536 (dNr d) n) 536) r = pwX d m wv (sa S 535) r (sa S 535 (16 + r) + nI n) (sa S 535 (8 + dOw d r)) (sa S 535 44 + nI n) := by
  have h10 : dNr d ≤ 10 := hv.2.1
  have h8 : dNs d ≤ 8 := hv.1
  have ho : dOw d r < dNs d := (hv.2.2.2.2.2.1 r hr).1
  have hc : ∀ k, k < 45 → sa (trS S) 536 k = sa S 535 k := fun k hk => tr_536 S hk
  rw [dyN_A _ h10, sAA_s, pw_k hv (DT_cg hv hc hD) hn hr, pwX_cg hv hc hr, hc (16 + r) (by omega), hc (8 + dOw d r) (by omega), hc 44 (by decide)]
theorem ahm_e (hG : HG S d) (hv : HV d) (hD : DT d (sa S 535)) {r n : Nat} (hr : r < dNr d) (hn : n ≤ 1000) : mpw (dyN (trS S) 536 (dNr d) n) 536 (dNr d) (dOw d) m wv r = pwX d m wv (sa S 535) r (sa S 535 (16 + r) + nI n) (sa S 535 (8 + dOw d r)) (sa S 535 44 + nI n) := by
  have h10 : dNr d ≤ 10 := hv.2.1
  have hGZ : HG (dyN (trS S) 536 (dNr d) n) d := by rw [dyN_A _ h10]; exact HG_AA (HG_tr hG hv) hv (by decide) _
  rw [mpw_A hGZ hv hr]
  exact ah_e hG hv hD hr hn
theorem cd_e (hG : HG S d) (hv : HV d) (hD : DT d (sa S 535)) {r p n : Nat} (hr : r < dNr d) (hp : p < dNp d) (hn : n ≤ 1000) : decide (sa (dyN (trS S) 536 (dNr d) n) (80 + r) 1 = sa (dyN (trS S) 536 (dNr d) n) (100 + p) 0 ∧ sa (dyN (trS S) 536 (dNr d) n) (100 + p) 1 ≤ mpw (dyN (trS S) 536 (dNr d) n) 536 (dNr d) (dOw d) m wv r) = cnB d m wv (sa S 535) r p (nI n) := by
  have h10 : dNr d ≤ 10 := hv.2.1
  have hGZ : HG (dyN (trS S) 536 (dNr d) n) d := by rw [dyN_A _ h10]; exact HG_AA (HG_tr hG hv) hv (by decide) _
  apply Bool.eq_iff_iff.mpr
  rw [decide_eq_true_iff, mab_A hGZ hv hr hp, cnB_i]
  unfold abA
  rw [ah_e hG hv hD hr hn]
theorem fst1_cg {p q : Nat → Bool} : ∀ {n : Nat}, (∀ k, k < n → p k = q k) → fst1 p n = fst1 q n
  | 0, _ => rfl
  | n + 1, h => by
    show (if fst1 p n = -1 then (if p n = true then nI n else -1) else fst1 p n) = (if fst1 q n = -1 then (if q n = true then nI n else -1) else fst1 q n)
    rw [fst1_cg (fun k hk => h k (by omega)), h n (Nat.lt_succ_self n)]
theorem wh_e (hG : HG S d) (hv : HV d) (hD : DT d (sa S 535)) {r p : Nat} (hr : r < dNr d) (hp : p < dNp d) : fst1 (fun k => decide (sa (dyN (trS S) 536 (dNr d) k) (80 + r) 1 = sa (dyN (trS S) 536 (dNr d) k) (100 + p) 0 ∧ sa (dyN (trS S) 536 (dNr d) k) (100 + p) 1 ≤ mpw (dyN (trS S) 536 (dNr d) k) 536 (dNr d) (dOw d) m wv r)) 201 = fst1 (fun k => cnB d m wv (sa S 535) r p (nI k)) 201 := fst1_cg (fun k hk => cd_e hG hv hD hr hp (by omega))
end EQ3
