section EQ7
variable {S : Sx} {d : HD} {m : Nat} {wv : Nat → Nat × Nat}
theorem laS_A {Z : Sx} (hG : HG Z d) (hv : HV d) {s : Nat} (hs : s < dNs d) : laS Z (dNr d) s = sAA Z 536 (if sa Z 536 (0 + s) = 0 ∧ kM d (sa Z 536) s ≠ 0 then rLap d s (sa Z 536) else sa Z 536) := by
  have h8 : dNs d ≤ 8 := hv.1
  unfold laS
  rw [mko_A hG hv (show s < 100 by omega)]
  by_cases c : sa Z 536 (0 + s) = 0 ∧ kM d (sa Z 536) s ≠ 0
  · rw [if_pos c, if_pos c]
    exact lpE_A hG hv (by decide) hs
  · rw [if_neg c, if_neg c]
    exact (sAA_self Z 536).symm
theorem ahl_e (hG : HG S d) (hv : HV d) (hD : DT d (sa S 535)) {r n : Nat} (hr : r < dNr d) (hn : n ≤ 1000) (hK : sa S 535 (16 + r) ≠ -1 → sa S 535 (0 + dOw d r) = 0) : mpw (dyN (laS (trS S) (dNr d) (dOw d r)) 536 (dNr d) n) 536 (dNr d) (dOw d) m wv r = pwX d m wv (sa S 535) r (sa S 535 (16 + r) / 2 + nI n) (sa S 535 (8 + dOw d r) + 1) (sa S 535 44 + nI n) := by
  have h10 : dNr d ≤ 10 := hv.2.1
  have h8 : dNs d ≤ 8 := hv.1
  have ho : dOw d r < dNs d := (hv.2.2.2.2.2.1 r hr).1
  have hc : ∀ k, k < 45 → sa (trS S) 536 k = sa S 535 k := fun k hk => tr_536 S hk
  have hGt := HG_tr hG hv
  have eZ : dyN (laS (trS S) (dNr d) (dOw d r)) 536 (dNr d) n = sAA (trS S) 536 (rDk (dNr d) n (if sa (trS S) 536 (0 + dOw d r) = 0 ∧ kM d (sa (trS S) 536) (dOw d r) ≠ 0 then rLap d (dOw d r) (sa (trS S) 536) else sa (trS S) 536)) := by
    rw [laS_A hGt hv ho, dyN_A _ h10, sAA_s, sAA_sAA]
  have hGZ : HG (dyN (laS (trS S) (dNr d) (dOw d r)) 536 (dNr d) n) d := by rw [eZ]; exact HG_AA hGt hv (by decide) _
  rw [mpw_A hGZ hv hr, eZ, sAA_s, pw_l hv (DT_cg hv hc hD) hr hn (fun z => by rw [hc _ (by omega)] at z ⊢; exact hK z), pwX_cg hv hc hr, hc (16 + r) (by omega), hc (8 + dOw d r) (by omega), hc 44 (by decide)]
end EQ7
