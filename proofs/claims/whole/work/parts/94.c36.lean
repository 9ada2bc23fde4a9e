/-! ===== best, alms: alike ===== -/
section EQ5
variable {S : Sx} {d : HD} {m : Nat} {wv : Nat → Nat × Nat}
theorem bs_e (hG : HG S d) (hv : HV d) {r n : Nat} (hr : r < dNr d) : bsC d m wv (sa S 535) r n = bsN S (dNr d) (dOw d) (dTm d) m wv r n := by
  unfold bsC bsN
  rw [show (fun a b c => (pwA d m wv (sa S 535) r a b c).toNatClampNeg) = (fun a b c => (mpo S 535 (dNr d) (dOw d) m wv r a b c).toNatClampNeg) from by funext a b c; rw [mpo_A hG hv hr]]
theorem gv_e (hG : HG S d) {y q : Int32} : gvC d y q = gvb S (dNp d) y q := by
  unfold gvC gvb
  refine sm_cg (fun p hp => ?_)
  rw [(hG.2.2.2.2.2.2 p hp).2]
theorem am_e (hG : HG S d) {y z : Int32} : almB (fun k => gvC d y (nI k)) z 99 = almB (fun k => gvb S (dNp d) y (nI k)) z 99 := by
  rw [show (fun k => gvC d y (nI k)) = (fun k => gvb S (dNp d) y (nI k)) from by funext k; exact gv_e hG]
end EQ5
