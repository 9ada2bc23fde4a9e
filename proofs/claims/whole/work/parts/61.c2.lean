theorem kM_and {d : HD} {f : Row} {s : Nat} (hn : dNr d ≤ 10) : msk (fun r => decide (f (16 + r) ≠ -1)) (dNr d) &&& msk (fun r => decide (dOw d r = s)) (dNr d) = kM d f s := by
  rw [msk_and (by omega)]
  unfold kM
  refine msk_congr (fun r hr => ?_)
  by_cases h1 : f (16 + r) = -1 <;> by_cases h2 : dOw d r = s <;> simp [h1, h2]
def pwX (d : HD) (m : Nat) (wv : Nat → Nat × Nat) (f : Row) (r : Nat) (dy lp dd : Int32) : Int32 := if f (16 + r) ≠ -1 then pwA d m wv f r dy lp dd else 0
theorem r_X0_isKept {g : Gp} {S : Sx} {r : Nat} {c e i a b m : Nat} {d : HD} {wv : Nat → Nat × Nat} {f : Row} (hX : CX S c e i a b d m wv f) (hr : r < dNr d) : RT g mX0_isKept 0 [.ref c, .int (nI r)] S (some (.int (bI (decide (f (16 + r) ≠ -1))))) S := by
  refine RT_ofQ ⟨rfl, rfl⟩ (Nat.le_of_ble_eq_true rfl) (fun sz Q hQ => ?_)
  obtain ⟨hCL, hHL, hLL, hp2, hp3, hHC, hv, hW, hLC, hRC⟩ := id hX
  have n1 : dNs d ≤ 8 := hv.1
  have n2 : dNr d ≤ 10 := hv.2.1
  have n3 : dNp d ≤ 8 := hv.2.2.1
  refine J_aload_n (pc := 0) dX0_isKept_0 rfl ?_
  refine J_getr (pc := 1) dX0_isKept_1 kc0 fl_X0_11 (by first | exact cvn_r0 (by assumption) | rfl) ?_
  refine J_iconst (pc := 4) (v := 2) dX0_isKept_4 (by decide) ?_
  refine J_il (pc := 5) dX0_isKept_5 (by first | exact cvn_e (by assumption) | rfl) (rfl : (2 : Int32) = nI 2) ⟨by first | decide | omega, by decide⟩ ?_
  refine J_t1 (hRC.2.2.1) ?_
  refine J_iload_n (pc := 6) dX0_isKept_6 rfl ?_
  refine J_ishr (pc := 7) dX0_isKept_7 ?_
  refine J_iconst (pc := 8) (v := 1) dX0_isKept_8 (by decide) ?_
  refine J_iand (pc := 9) dX0_isKept_9 ?_
  refine J_t1 (mb (by omega) hr) ?_
  refine J_ifp_eq (pc := 10) (tgt := 17) dX0_isKept_10 (by decide) (fun c10 => ?_) (fun c10 => ?_)
  · refine J_iconst (pc := 17) (v := 0) dX0_isKept_17 (by decide) ?_
    exact J_iret (pc := 18) rfl rfl rfl dX0_isKept_18 (rq hQ (by first | exact Eq.symm (bI_t c10) | exact Eq.symm (bI_f c10)) rfl)
  · refine J_iconst (pc := 13) (v := 1) dX0_isKept_13 (by decide) ?_
    refine J_goto (pc := 14) (tgt := 18) dX0_isKept_14 (by decide) ?_
    exact J_iret (pc := 18) rfl rfl rfl dX0_isKept_18 (rq hQ (by first | exact Eq.symm (bI_t c10) | exact Eq.symm (bI_f c10)) rfl)
theorem r_X0_isCured {g : Gp} {S : Sx} {r : Nat} {c e i a b m : Nat} {d : HD} {wv : Nat → Nat × Nat} {f : Row} (hX : CX S c e i a b d m wv f) (hr : r < dNp d) : RT g mX0_isCured 0 [.ref c, .int (nI r)] S (some (.int (bI (decide (f (36 + r) ≠ -1))))) S := by
  refine RT_ofQ ⟨rfl, rfl⟩ (Nat.le_of_ble_eq_true rfl) (fun sz Q hQ => ?_)
  obtain ⟨hCL, hHL, hLL, hp2, hp3, hHC, hv, hW, hLC, hRC⟩ := id hX
  have n1 : dNs d ≤ 8 := hv.1
  have n2 : dNr d ≤ 10 := hv.2.1
  have n3 : dNp d ≤ 8 := hv.2.2.1
  refine J_aload_n (pc := 0) dX0_isCured_0 rfl ?_
  refine J_getr (pc := 1) dX0_isCured_1 kc0 fl_X0_11 (by first | exact cvn_r0 (by assumption) | rfl) ?_
  refine J_iconst (pc := 4) (v := 3) dX0_isCured_4 (by decide) ?_
  refine J_il (pc := 5) dX0_isCured_5 (by first | exact cvn_e (by assumption) | rfl) (rfl : (3 : Int32) = nI 3) ⟨by first | decide | omega, by decide⟩ ?_
  refine J_t1 (hRC.2.2.2.1) ?_
  refine J_iload_n (pc := 6) dX0_isCured_6 rfl ?_
  refine J_ishr (pc := 7) dX0_isCured_7 ?_
  refine J_iconst (pc := 8) (v := 1) dX0_isCured_8 (by decide) ?_
  refine J_iand (pc := 9) dX0_isCured_9 ?_
  refine J_t1 (mb (by omega) hr) ?_
  refine J_ifp_eq (pc := 10) (tgt := 17) dX0_isCured_10 (by decide) (fun c10 => ?_) (fun c10 => ?_)
  · refine J_iconst (pc := 17) (v := 0) dX0_isCured_17 (by decide) ?_
    exact J_iret (pc := 18) rfl rfl rfl dX0_isCured_18 (rq hQ (by first | exact Eq.symm (bI_t c10) | exact Eq.symm (bI_f c10)) rfl)
  · refine J_iconst (pc := 13) (v := 1) dX0_isCured_13 (by decide) ?_
    refine J_goto (pc := 14) (tgt := 18) dX0_isCured_14 (by decide) ?_
    exact J_iret (pc := 18) rfl rfl rfl dX0_isCured_18 (rq hQ (by first | exact Eq.symm (bI_t c10) | exact Eq.symm (bI_f c10)) rfl)
theorem r_X0_isUsed {g : Gp} {S : Sx} {r : Nat} {c e i a b m : Nat} {d : HD} {wv : Nat → Nat × Nat} {f : Row} (hX : CX S c e i a b d m wv f) (hr : r < dNr d) : RT g mX0_isUsed 0 [.ref c, .int (nI r)] S (some (.int (bI (decide (f (26 + r) = 1))))) S := by
  refine RT_ofQ ⟨rfl, rfl⟩ (Nat.le_of_ble_eq_true rfl) (fun sz Q hQ => ?_)
  obtain ⟨hCL, hHL, hLL, hp2, hp3, hHC, hv, hW, hLC, hRC⟩ := id hX
  have n1 : dNs d ≤ 8 := hv.1
  have n2 : dNr d ≤ 10 := hv.2.1
  have n3 : dNp d ≤ 8 := hv.2.2.1
  refine J_aload_n (pc := 0) dX0_isUsed_0 rfl ?_
  refine J_getr (pc := 1) dX0_isUsed_1 kc0 fl_X0_11 (by first | exact cvn_r0 (by assumption) | rfl) ?_
  refine J_iconst (pc := 4) (v := 4) dX0_isUsed_4 (by decide) ?_
  refine J_il (pc := 5) dX0_isUsed_5 (by first | exact cvn_e (by assumption) | rfl) (rfl : (4 : Int32) = nI 4) ⟨by first | decide | omega, by decide⟩ ?_
  refine J_t1 (hRC.2.2.2.2.1) ?_
  refine J_iload_n (pc := 6) dX0_isUsed_6 rfl ?_
  refine J_ishr (pc := 7) dX0_isUsed_7 ?_
  refine J_iconst (pc := 8) (v := 1) dX0_isUsed_8 (by decide) ?_
  refine J_iand (pc := 9) dX0_isUsed_9 ?_
  refine J_t1 (mb (by omega) hr) ?_
  refine J_ifp_eq (pc := 10) (tgt := 17) dX0_isUsed_10 (by decide) (fun c10 => ?_) (fun c10 => ?_)
  · refine J_iconst (pc := 17) (v := 0) dX0_isUsed_17 (by decide) ?_
    exact J_iret (pc := 18) rfl rfl rfl dX0_isUsed_18 (rq hQ (by first | exact Eq.symm (bI_t c10) | exact Eq.symm (bI_f c10)) rfl)
  · refine J_iconst (pc := 13) (v := 1) dX0_isUsed_13 (by decide) ?_
    refine J_goto (pc := 14) (tgt := 18) dX0_isUsed_14 (by decide) ?_
    exact J_iret (pc := 18) rfl rfl rfl dX0_isUsed_18 (rq hQ (by first | exact Eq.symm (bI_t c10) | exact Eq.symm (bI_f c10)) rfl)
theorem r_X0_isLiving {g : Gp} {S : Sx} {r : Nat} {c e i a b m : Nat} {d : HD} {wv : Nat → Nat × Nat} {f : Row} (hX : CX S c e i a b d m wv f) (hr : r < dNs d) : RT g mX0_isLiving 0 [.ref c, .int (nI r)] S (some (.int (bI (decide (f (0 + r) = 0))))) S := by
  refine RT_ofQ ⟨rfl, rfl⟩ (Nat.le_of_ble_eq_true rfl) (fun sz Q hQ => ?_)
  obtain ⟨hCL, hHL, hLL, hp2, hp3, hHC, hv, hW, hLC, hRC⟩ := id hX
  have n1 : dNs d ≤ 8 := hv.1
  have n2 : dNr d ≤ 10 := hv.2.1
  have n3 : dNp d ≤ 8 := hv.2.2.1
  refine J_aload_n (pc := 0) dX0_isLiving_0 rfl ?_
  refine J_getr (pc := 1) dX0_isLiving_1 kc0 fl_X0_11 (by first | exact cvn_r0 (by assumption) | rfl) ?_
  refine J_iconst (pc := 4) (v := 1) dX0_isLiving_4 (by decide) ?_
  refine J_il (pc := 5) dX0_isLiving_5 (by first | exact cvn_e (by assumption) | rfl) (rfl : (1 : Int32) = nI 1) ⟨by first | decide | omega, by decide⟩ ?_
  refine J_t1 (hRC.2.1) ?_
  refine J_iload_n (pc := 6) dX0_isLiving_6 rfl ?_
  refine J_ishr (pc := 7) dX0_isLiving_7 ?_
  refine J_iconst (pc := 8) (v := 1) dX0_isLiving_8 (by decide) ?_
  refine J_iand (pc := 9) dX0_isLiving_9 ?_
  refine J_t1 (mb (by omega) hr) ?_
  refine J_ifp_eq (pc := 10) (tgt := 17) dX0_isLiving_10 (by decide) (fun c10 => ?_) (fun c10 => ?_)
  · refine J_iconst (pc := 17) (v := 0) dX0_isLiving_17 (by decide) ?_
    exact J_iret (pc := 18) rfl rfl rfl dX0_isLiving_18 (rq hQ (by first | exact Eq.symm (bI_t c10) | exact Eq.symm (bI_f c10)) rfl)
  · refine J_iconst (pc := 13) (v := 1) dX0_isLiving_13 (by decide) ?_
    refine J_goto (pc := 14) (tgt := 18) dX0_isLiving_14 (by decide) ?_
    exact J_iret (pc := 18) rfl rfl rfl dX0_isLiving_18 (rq hQ (by first | exact Eq.symm (bI_t c10) | exact Eq.symm (bI_f c10)) rfl)
theorem r_X0_keptOf {g : Gp} {S : Sx} {s : Nat} {c e i a b m : Nat} {d : HD} {wv : Nat → Nat × Nat} {f : Row} (hX : CX S c e i a b d m wv f) (hs' : s < dNs d) : RT g mX0_keptOf 0 [.ref c, .int (nI s)] S (some (.int (kM d f s))) S := by
  refine RT_ofQ ⟨rfl, rfl⟩ (Nat.le_of_ble_eq_true rfl) (fun sz Q hQ => ?_)
  obtain ⟨hCL, hHL, hLL, hp2, hp3, hHC, hv, hW, hLC, hRC⟩ := id hX
  have n1 : dNs d ≤ 8 := hv.1
  have n2 : dNr d ≤ 10 := hv.2.1
  have n3 : dNp d ≤ 8 := hv.2.2.1
  refine J_aload_n (pc := 0) dX0_keptOf_0 rfl ?_
  refine J_getr (pc := 1) dX0_keptOf_1 kc0 fl_X0_11 (by first | exact cvn_r0 (by assumption) | rfl) ?_
  refine J_iconst (pc := 4) (v := 2) dX0_keptOf_4 (by decide) ?_
  refine J_il (pc := 5) dX0_keptOf_5 (by first | exact cvn_e (by assumption) | rfl) (rfl : (2 : Int32) = nI 2) ⟨by first | decide | omega, by decide⟩ ?_
  refine J_t1 (hRC.2.2.1) ?_
  refine J_aload_n (pc := 6) dX0_keptOf_6 rfl ?_
  refine J_getp (pc := 7) dX0_keptOf_7 kc0 fl_X0_20 (by first | exact cvn_p2 (by assumption) | rfl) ?_
  refine J_tr hp2 ?_
  refine J_getrN (pc := 10) dX0_keptOf_10 kc1 fl_X0_46 (by first | exact hou_r1 (by assumption) | rfl) ?_
  refine J_iload_n (pc := 13) dX0_keptOf_13 rfl ?_
  refine J_il (pc := 14) dX0_keptOf_14 (by first | exact hou_a1 (by assumption) | rfl) (by first | with_reducible rfl | assumption | exact ix_nI _ | rfl) ⟨by first | decide | omega, by decide⟩ ?_
  refine J_t1 ((hHC.2.2.2.1 _ hs').2.1) ?_
  refine J_iand (pc := 15) dX0_keptOf_15 ?_
  exact J_iret (pc := 16) rfl rfl rfl dX0_keptOf_16 (rq hQ (kM_and n2) rfl)
theorem r_X0_keepers {g : Gp} {S : Sx} {c e i a b m : Nat} {d : HD} {wv : Nat → Nat × Nat} {f : Row} (hX : CX S c e i a b d m wv f) : RT g mX0_keepers 1 [.ref c] S (some (.int (msk (fun s => decide (f (0 + s) = 0 ∧ kM d f s ≠ 0)) (dNs d)))) S := by
  refine RT_ofQ ⟨rfl, rfl⟩ (Nat.le_of_ble_eq_true rfl) (fun sz Q hQ => ?_)
  obtain ⟨hCL, hHL, hLL, hp2, hp3, hHC, hv, hW, hLC, hRC⟩ := id hX
  have n1 : dNs d ≤ 8 := hv.1
  have n2 : dNr d ≤ 10 := hv.2.1
  have n3 : dNp d ≤ 8 := hv.2.2.1
  refine J_iconst (pc := 0) (v := 0) dX0_keepers_0 (by decide) ?_
  refine J_istore_n (pc := 1) dX0_keepers_1 (by decide) rfl ?_
  refine J_iconst (pc := 2) (v := 0) dX0_keepers_2 (by decide) ?_
  refine J_istore_n (pc := 3) dX0_keepers_3 (by decide) rfl ?_
  show J g mX0_keepers 1 [] 4 [some (.ref c), some (.int 0), some (.int 0)] [] (hs S) sz 0 0 Q
  refine dn_ind (n := dNs d) (P := fun i => J g mX0_keepers 1 [] 4 [some (.ref c), some (.int (msk (fun s => decide (f (0 + s) = 0 ∧ kM d f s ≠ 0)) i)), some (.int (ix i))] [] (hs S) sz 0 0 Q) ?_ (fun i hi ih => ?_) 0 (Nat.zero_le _)
  · refine J_iload_n (pc := 4) dX0_keepers_4 rfl ?_
    refine J_aload_n (pc := 5) dX0_keepers_5 rfl ?_
    refine J_getp (pc := 6) dX0_keepers_6 kc0 fl_X0_20 (by first | exact cvn_p2 (by assumption) | rfl) ?_
    refine J_tr hp2 ?_
    refine J_getiN (pc := 9) dX0_keepers_9 kc1 fl_X0_31 (by first | exact hou_i8 (by assumption) | rfl) ?_
    refine J_icmp_ge (pc := 12) (tgt := 43) dX0_keepers_12 (by decide) (fun c12 => ?_) (fun c12 => absurd (ix_ge hHC.1) c12)
    refine J_iload_n (pc := 43) dX0_keepers_43 rfl ?_
    exact J_iret (pc := 44) rfl rfl rfl dX0_keepers_44 (rq hQ rfl rfl)
  · refine J_iload_n (pc := 4) dX0_keepers_4 rfl ?_
    refine J_aload_n (pc := 5) dX0_keepers_5 rfl ?_
    refine J_getp (pc := 6) dX0_keepers_6 kc0 fl_X0_20 (by first | exact cvn_p2 (by assumption) | rfl) ?_
    refine J_tr hp2 ?_
    refine J_getiN (pc := 9) dX0_keepers_9 kc1 fl_X0_31 (by first | exact hou_i8 (by assumption) | rfl) ?_
    refine J_icmp_ge (pc := 12) (tgt := 43) dX0_keepers_12 (by decide) (fun c12 => absurd c12 (ix_lt hHC.1 hi (by omega))) (fun c12 => ?_)
    refine J_aload_n (pc := 15) dX0_keepers_15 rfl ?_
    refine J_iload_n (pc := 16) dX0_keepers_16 rfl ?_
    refine J_t1 (ix_nI i) ?_
    refine J_cvr (pc := 17) (N := mX0_isLiving) dX0_keepers_17 ml_X0_49 cf_X0_isLiving cv_X0_isLiving (r_X0_isLiving hX hi) rfl rfl (Nat.le_of_ble_eq_true rfl) (by decide) (rv_of (ci := 0) (by first | exact cvn_n (by assumption) | rfl) rfl rfl) ?_
    refine J_ifp_eq (pc := 20) (tgt := 37) dX0_keepers_20 (by decide) (fun c20 => ?_) (fun c20 => ?_)
    · rw [msk_f0 (p := (fun s => decide (f (0 + s) = 0 ∧ kM d f s ≠ 0))) (n := i) (fun q => c20 (of_decide_eq_true q).1)]
      refine J_iinc (pc := 37) (v := 1) dX0_keepers_37 rfl (by decide) rfl ?_
      refine J_goto (pc := 40) (tgt := 4) dX0_keepers_40 (by decide) ?_
      exact ih
    · refine J_aload_n (pc := 23) dX0_keepers_23 rfl ?_
      refine J_iload_n (pc := 24) dX0_keepers_24 rfl ?_
      refine J_t1 (ix_nI i) ?_
      refine J_cvr (pc := 25) (N := mX0_keptOf) dX0_keepers_25 ml_X0_53 cf_X0_keptOf cv_X0_keptOf (r_X0_keptOf hX hi) rfl rfl (Nat.le_of_ble_eq_true rfl) (by decide) (rv_of (ci := 0) (by first | exact cvn_n (by assumption) | rfl) rfl rfl) ?_
      refine J_if_eq (pc := 28) (tgt := 37) dX0_keepers_28 (by decide) (fun c28 => ?_) (fun c28 => ?_)
      · rw [msk_f0 (p := (fun s => decide (f (0 + s) = 0 ∧ kM d f s ≠ 0))) (n := i) (fun q => (of_decide_eq_true q).2 c28)]
        refine J_iinc (pc := 37) (v := 1) dX0_keepers_37 rfl (by decide) rfl ?_
        refine J_goto (pc := 40) (tgt := 4) dX0_keepers_40 (by decide) ?_
        exact ih
      · refine J_iload_n (pc := 31) dX0_keepers_31 rfl ?_
        refine J_iconst (pc := 32) (v := 1) dX0_keepers_32 (by decide) ?_
        refine J_iload_n (pc := 33) dX0_keepers_33 rfl ?_
        refine J_ishl (pc := 34) dX0_keepers_34 ?_
        refine J_ior (pc := 35) dX0_keepers_35 ?_
        refine J_t1 (msk_t (p := (fun s => decide (f (0 + s) = 0 ∧ kM d f s ≠ 0))) (n := i) (by simp only [decide_eq_true_eq]; exact ⟨c20, c28⟩)) ?_
        refine J_istore_n (pc := 36) dX0_keepers_36 (by decide) rfl ?_
        refine J_iinc (pc := 37) (v := 1) dX0_keepers_37 rfl (by decide) rfl ?_
        refine J_goto (pc := 40) (tgt := 4) dX0_keepers_40 (by decide) ?_
        exact ih
theorem r_X0_powerIf {g : Gp} {S : Sx} {r : Nat} {dy lp dd : Int32} {c e i a b m : Nat} {d : HD} {wv : Nat → Nat × Nat} {f : Row} (hX : CX S c e i a b d m wv f) (hr : r < dNr d) : RW g mX0_powerIf 3 [.ref c, .int (nI r), .int dy, .int lp, .int dd] S (some (.int (pwX d m wv f r dy lp dd))) S := by
  refine RW_ofQ ⟨rfl, rfl⟩ (Nat.le_of_ble_eq_true rfl) (fun T sz Q hQ => ?_)
  obtain ⟨hCL, hHL, hLL, hp2, hp3, hHC, hv, hW, hLC, hRC⟩ := id hX
  have n1 : dNs d ≤ 8 := hv.1
  have n2 : dNr d ≤ 10 := hv.2.1
  have n3 : dNp d ≤ 8 := hv.2.2.1
  have ho : dOw d r < dNs d := (hv.2.2.2.2.2.1 r hr).1
  refine J_aload_n (pc := 0) dX0_powerIf_0 rfl ?_
  refine J_iload_n (pc := 1) dX0_powerIf_1 rfl ?_
  refine J_cvr (pc := 2) (N := mX0_isKept) dX0_powerIf_2 ml_X0_57 cf_X0_isKept cv_X0_isKept (r_X0_isKept (S := w1 S T) hX hr) rfl rfl (Nat.le_of_ble_eq_true rfl) (by decide) (rv_of (ci := 0) (by first | exact cvn_n (by assumption) | rfl) rfl rfl) ?_
  refine J_ifp_ne (pc := 5) (tgt := 10) dX0_powerIf_5 (by decide) (fun c5 => ?_) (fun c5 => ?_)
  · refine J_aload_n (pc := 10) dX0_powerIf_10 rfl ?_
    refine J_getp (pc := 11) dX0_powerIf_11 kc0 fl_X0_20 (by first | exact cvn_p2 (by assumption) | rfl) ?_
    refine J_tr hp2 ?_
    refine J_getrN (pc := 14) dX0_powerIf_14 kc1 fl_X0_60 (by first | exact hou_r3 (by assumption) | rfl) ?_
    refine J_iload_n (pc := 17) dX0_powerIf_17 rfl ?_
    refine J_il (pc := 18) dX0_powerIf_18 (by first | exact hou_a3 (by assumption) | rfl) (by first | with_reducible rfl | assumption | exact ix_nI _ | rfl) ⟨by first | decide | omega, by decide⟩ ?_
    refine J_t1 ((hHC.2.2.2.2.1 _ hr).1) ?_
    refine J_istore (pc := 19) dX0_powerIf_19 (by decide) rfl ?_
    refine J_aload_n (pc := 21) dX0_powerIf_21 rfl ?_
    refine J_getr (pc := 22) dX0_powerIf_22 kc0 fl_X0_17 (by first | exact cvn_r1 (by assumption) | rfl) ?_
    refine J_iconst (pc := 25) (v := 0) dX0_powerIf_25 (by decide) ?_
    refine J_aload_n (pc := 26) dX0_powerIf_26 rfl ?_
    refine J_getp (pc := 27) dX0_powerIf_27 kc0 fl_X0_20 (by first | exact cvn_p2 (by assumption) | rfl) ?_
    refine J_tr hp2 ?_
    refine J_getrN (pc := 30) dX0_powerIf_30 kc1 fl_X0_63 (by first | exact hou_r5 (by assumption) | rfl) ?_
    refine J_iload_n (pc := 33) dX0_powerIf_33 rfl ?_
    refine J_il (pc := 34) dX0_powerIf_34 (by first | exact hou_a5 (by assumption) | rfl) (by first | with_reducible rfl | assumption | exact ix_nI _ | rfl) ⟨by first | decide | omega, by decide⟩ ?_
    refine J_t1 ((hHC.2.2.2.2.1 _ hr).2.2) ?_
    refine J_xsw (pc := 35) dX0_powerIf_35 (by first | exact cvn_i (by assumption) | rfl) (rfl : (0 : Int32) = nI 0) ⟨by first | decide | omega, by decide⟩ ?_
    refine J_aload_n (pc := 36) dX0_powerIf_36 rfl ?_
    refine J_getr (pc := 37) dX0_powerIf_37 kc0 fl_X0_17 (by first | exact cvn_r1 (by assumption) | rfl) ?_
    refine J_iconst (pc := 40) (v := 1) dX0_powerIf_40 (by decide) ?_
    refine J_iload_n (pc := 41) dX0_powerIf_41 rfl ?_
    refine J_xsw (pc := 42) dX0_powerIf_42 (by first | exact cvn_i (by assumption) | rfl) (rfl : (1 : Int32) = nI 1) ⟨by first | decide | omega, by decide⟩ ?_
    refine J_aload_n (pc := 43) dX0_powerIf_43 rfl ?_
    refine J_getr (pc := 44) dX0_powerIf_44 kc0 fl_X0_17 (by first | exact cvn_r1 (by assumption) | rfl) ?_
    refine J_iconst (pc := 47) (v := 2) dX0_powerIf_47 (by decide) ?_
    refine J_iload_n (pc := 48) dX0_powerIf_48 rfl ?_
    refine J_xsw (pc := 49) dX0_powerIf_49 (by first | exact cvn_i (by assumption) | rfl) (rfl : (2 : Int32) = nI 2) ⟨by first | decide | omega, by decide⟩ ?_
    refine J_aload_n (pc := 50) dX0_powerIf_50 rfl ?_
    refine J_getr (pc := 51) dX0_powerIf_51 kc0 fl_X0_17 (by first | exact cvn_r1 (by assumption) | rfl) ?_
    refine J_iconst (pc := 54) (v := 3) dX0_powerIf_54 (by decide) ?_
    refine J_aload_n (pc := 55) dX0_powerIf_55 rfl ?_
    refine J_getp (pc := 56) dX0_powerIf_56 kc0 fl_X0_20 (by first | exact cvn_p2 (by assumption) | rfl) ?_
    refine J_tr hp2 ?_
    refine J_getrN (pc := 59) dX0_powerIf_59 kc1 fl_X0_66 (by first | exact hou_r0 (by assumption) | rfl) ?_
    refine J_iload (pc := 62) dX0_powerIf_62 rfl ?_
    refine J_il (pc := 64) dX0_powerIf_64 (by first | exact hou_a0 (by assumption) | rfl) (by first | with_reducible rfl | assumption | exact ix_nI _ | rfl) ⟨by first | decide | omega, by decide⟩ ?_
    refine J_t1 ((hHC.2.2.2.1 _ ho).1) ?_
    refine J_xsw (pc := 65) dX0_powerIf_65 (by first | exact cvn_i (by assumption) | rfl) (rfl : (3 : Int32) = nI 3) ⟨by first | decide | omega, by decide⟩ ?_
    refine J_aload_n (pc := 66) dX0_powerIf_66 rfl ?_
    refine J_getr (pc := 67) dX0_powerIf_67 kc0 fl_X0_17 (by first | exact cvn_r1 (by assumption) | rfl) ?_
    refine J_iconst (pc := 70) (v := 4) dX0_powerIf_70 (by decide) ?_
    refine J_aload_n (pc := 71) dX0_powerIf_71 rfl ?_
    refine J_getp (pc := 72) dX0_powerIf_72 kc0 fl_X0_20 (by first | exact cvn_p2 (by assumption) | rfl) ?_
    refine J_tr hp2 ?_
    refine J_getrN (pc := 75) dX0_powerIf_75 kc1 fl_X0_69 (by first | exact hou_r4 (by assumption) | rfl) ?_
    refine J_iload_n (pc := 78) dX0_powerIf_78 rfl ?_
    refine J_il (pc := 79) dX0_powerIf_79 (by first | exact hou_a4 (by assumption) | rfl) (by first | with_reducible rfl | assumption | exact ix_nI _ | rfl) ⟨by first | decide | omega, by decide⟩ ?_
    refine J_t1 ((hHC.2.2.2.2.1 _ hr).2.1) ?_
    refine J_xsw (pc := 80) dX0_powerIf_80 (by first | exact cvn_i (by assumption) | rfl) (rfl : (4 : Int32) = nI 4) ⟨by first | decide | omega, by decide⟩ ?_
    refine J_aload_n (pc := 81) dX0_powerIf_81 rfl ?_
    refine J_getr (pc := 82) dX0_powerIf_82 kc0 fl_X0_17 (by first | exact cvn_r1 (by assumption) | rfl) ?_
    refine J_iconst (pc := 85) (v := 5) dX0_powerIf_85 (by decide) ?_
    refine J_aload_n (pc := 86) dX0_powerIf_86 rfl ?_
    refine J_iload (pc := 87) dX0_powerIf_87 rfl ?_
    refine J_cvr (pc := 89) (N := mX0_keptOf) dX0_powerIf_89 ml_X0_53 cf_X0_keptOf cv_X0_keptOf (r_X0_keptOf (S := w1 S _) hX ho) rfl rfl (Nat.le_of_ble_eq_true rfl) (by decide) (rv_of (ci := 0) (by first | exact cvn_n (by assumption) | rfl) rfl rfl) ?_
    refine J_iconst (pc := 92) (v := 1) dX0_powerIf_92 (by decide) ?_
    refine J_iload_n (pc := 93) dX0_powerIf_93 rfl ?_
    refine J_ishl (pc := 94) dX0_powerIf_94 ?_
    refine J_iconst (pc := 95) (v := -1) dX0_powerIf_95 (by decide) ?_
    refine J_ixor (pc := 96) dX0_powerIf_96 ?_
    refine J_iand (pc := 97) dX0_powerIf_97 ?_
    refine J_csr (pc := 98) (N := mJ6_bitCount_0f7a4) dX0_powerIf_98 ml_X0_72 cf_J6_bitCount_0f7a4 cs_J6_bitCount_0f7a4 r_J6_bitCount_0f7a4 rfl rfl (Nat.le_of_ble_eq_true rfl) (by decide) ?_
    refine J_t1 (y := on1 (kM d f (dOw d r)) 10 - 1) (bcn_msk (p := fun q => decide (dOw d q = dOw d r ∧ f (16 + q) ≠ -1)) n2 hr (by simpa using c5)) ?_
    refine J_xsw (pc := 101) dX0_powerIf_101 (by first | exact cvn_i (by assumption) | rfl) (rfl : (5 : Int32) = nI 5) ⟨by first | decide | omega, by decide⟩ ?_
    refine J_aload_n (pc := 102) dX0_powerIf_102 rfl ?_
    refine J_getr (pc := 103) dX0_powerIf_103 kc0 fl_X0_17 (by first | exact cvn_r1 (by assumption) | rfl) ?_
    refine J_bipush (pc := 106) (v := 6) dX0_powerIf_106 (by decide) ?_
    refine J_iload (pc := 108) dX0_powerIf_108 rfl ?_
    refine J_xsw (pc := 110) dX0_powerIf_110 (by first | exact cvn_i (by assumption) | rfl) (rfl : (6 : Int32) = nI 6) ⟨by first | decide | omega, by decide⟩ ?_
    refine J_aload_n (pc := 111) dX0_powerIf_111 rfl ?_
    refine J_getr (pc := 112) dX0_powerIf_112 kc0 fl_X0_17 (by first | exact cvn_r1 (by assumption) | rfl) ?_
    refine J_bipush (pc := 115) (v := 7) dX0_powerIf_115 (by decide) ?_
    refine J_iload (pc := 117) dX0_powerIf_117 rfl ?_
    refine J_xsw (pc := 119) dX0_powerIf_119 (by first | exact cvn_i (by assumption) | rfl) (rfl : (7 : Int32) = nI 7) ⟨by first | decide | omega, by decide⟩ ?_
    refine J_aload_n (pc := 120) dX0_powerIf_120 rfl ?_
    refine J_getp (pc := 121) dX0_powerIf_121 kc0 fl_X0_24 (by first | exact cvn_p3 (by assumption) | rfl) ?_
    refine J_tr hp3 ?_
    refine J_cg2 (S' := w1 S (sX (sX (sX (sX (sX (sX (sX (sX T i 0 (nI (dWo d r))) i 1 dy) i 2 lp) i 3 (nI (dTm d (dOw d r)))) i 4 (nI (dIl d r))) i 5 (on1 (kM d f (dOw d r)) 10 - 1)) i 6 (nI (dOw d r))) i 7 dd)) rfl ?_
    refine J_aload_n (pc := 124) dX0_powerIf_124 rfl ?_
    refine J_getr (pc := 125) dX0_powerIf_125 kc0 fl_X0_17 (by first | exact cvn_r1 (by assumption) | rfl) ?_
    refine J_cnr (pc := 128) (N := mX2_power) dX0_powerIf_128 ml_X0_77 cf_X2_power cv_X2_power (r_X2_power hLL hCL (cW_W hW) hLC.1 hLC.2) rfl rfl (Nat.le_of_ble_eq_true rfl) (by decide) (rv_of (ci := 2) (by first | exact law_n (by assumption) | rfl) rfl rfl) ?_
    exact J_iret (pc := 131) rfl rfl rfl dX0_powerIf_131 (by rw [cl_val (kn' := kn8 (nI (dWo d r)) dy lp (nI (dTm d (dOw d r))) (nI (dIl d r)) (on1 (kM d f (dOw d r)) 10 - 1) (nI (dOw d r)) dd) hW _ (fun k hk => by (obtain rfl | rfl | rfl | rfl | rfl | rfl | rfl | rfl : k = 0 ∨ k = 1 ∨ k = 2 ∨ k = 3 ∨ k = 4 ∨ k = 5 ∨ k = 6 ∨ k = 7 := by omega) <;> simp [w1, sX, sx, up2, kn8])]; exact Eq.mp (by unfold pwX; rw [if_pos c5]; rfl) (hQ (sXX (sX (sX (sX (sX (sX (sX (sX (sX T i 0 (nI (dWo d r))) i 1 dy) i 2 lp) i 3 (nI (dTm d (dOw d r)))) i 4 (nI (dIl d r))) i 5 (on1 (kM d f (dOw d r)) 10 - 1)) i 6 (nI (dOw d r))) i 7 dd) (b + 2) _)))
  · refine J_iconst (pc := 8) (v := 0) dX0_powerIf_8 (by decide) ?_
    exact J_iret (pc := 9) rfl rfl rfl dX0_powerIf_9 (rqw hQ (by unfold pwX; rw [if_neg c5]) rfl)
theorem pwX_c {d : HD} {m : Nat} {wv : Nat → Nat × Nat} {f : Row} {r : Nat} {dy dy' lp dd : Int32} (h : f (16 + r) ≠ -1 → dy = dy') : pwX d m wv f r dy lp dd = pwX d m wv f r dy' lp dd := by
  unfold pwX
  by_cases q : f (16 + r) ≠ -1
  · rw [if_pos q, if_pos q, h q]
  · rw [if_neg q, if_neg q]
theorem pwX_0 {d : HD} {m : Nat} {wv : Nat → Nat × Nat} {f : Row} {r : Nat} : pwX d m wv f r (f (16 + r) + 0) (f (8 + dOw d r)) (f 44 + 0) = pwN d m wv f r := by
  unfold pwX pwN
  rw [Int32.add_zero, Int32.add_zero]
/-- whether relic r can cure pilgrim p in k days -/
def cnB (d : HD) (m : Nat) (wv : Nat → Nat × Nat) (f : Row) (r p : Nat) (k : Int32) : Bool := decide (dIl d r = dPi d p ∧ nI (dPn d p) ≤ pwX d m wv f r (f (16 + r) + k) (f (8 + dOw d r)) (f 44 + k))
theorem cnB_i {d : HD} {m : Nat} {wv : Nat → Nat × Nat} {f : Row} {r p : Nat} {k : Int32} : cnB d m wv f r p k = true ↔ (dIl d r = dPi d p ∧ nI (dPn d p) ≤ pwX d m wv f r (f (16 + r) + k) (f (8 + dOw d r)) (f 44 + k)) := by
  unfold cnB
  exact decide_eq_true_iff
theorem r_X0_powerIn {g : Gp} {S : Sx} {r : Nat} {k : Int32} {c e i a b m : Nat} {d : HD} {wv : Nat → Nat × Nat} {f : Row} (hX : CX S c e i a b d m wv f) (hr : r < dNr d) : RW g mX0_powerIn 4 [.ref c, .int (nI r), .int k] S (some (.int (pwX d m wv f r (f (16 + r) + k) (f (8 + dOw d r)) (f 44 + k)))) S := by
  refine RW_ofQ ⟨rfl, rfl⟩ (Nat.le_of_ble_eq_true rfl) (fun T sz Q hQ => ?_)
  obtain ⟨hCL, hHL, hLL, hp2, hp3, hHC, hv, hW, hLC, hRC⟩ := id hX
  have n1 : dNs d ≤ 8 := hv.1
  have n2 : dNr d ≤ 10 := hv.2.1
  have n3 : dNp d ≤ 8 := hv.2.2.1
  have ho : dOw d r < dNs d := (hv.2.2.2.2.2.1 r hr).1
  refine J_aload_n (pc := 0) dX0_powerIn_0 rfl ?_
  refine J_iload_n (pc := 1) dX0_powerIn_1 rfl ?_
  refine J_aload_n (pc := 2) dX0_powerIn_2 rfl ?_
  refine J_getr (pc := 3) dX0_powerIn_3 kc0 fl_X0_11 (by first | exact cvn_r0 (by assumption) | rfl) ?_
  refine J_iconst (pc := 6) (v := 5) dX0_powerIn_6 (by decide) ?_
  refine J_iload_n (pc := 7) dX0_powerIn_7 rfl ?_
  refine J_iadd (pc := 8) dX0_powerIn_8 ?_
  refine J_il (pc := 9) dX0_powerIn_9 (by first | exact cvn_e (by assumption) | rfl) (by first | exact nI_add 5 _ | (rw [ix_nI]; exact nI_add 5 _)) ⟨by first | decide | omega, by decide⟩ ?_
  refine J_iload_n (pc := 10) dX0_powerIn_10 rfl ?_
  refine J_iadd (pc := 11) dX0_powerIn_11 ?_
  refine J_aload_n (pc := 12) dX0_powerIn_12 rfl ?_
  refine J_getr (pc := 13) dX0_powerIn_13 kc0 fl_X0_11 (by first | exact cvn_r0 (by assumption) | rfl) ?_
  refine J_bipush (pc := 16) (v := 15) dX0_powerIn_16 (by decide) ?_
  refine J_aload_n (pc := 18) dX0_powerIn_18 rfl ?_
  refine J_getp (pc := 19) dX0_powerIn_19 kc0 fl_X0_20 (by first | exact cvn_p2 (by assumption) | rfl) ?_
  refine J_tr hp2 ?_
  refine J_getrN (pc := 22) dX0_powerIn_22 kc1 fl_X0_60 (by first | exact hou_r3 (by assumption) | rfl) ?_
  refine J_iload_n (pc := 25) dX0_powerIn_25 rfl ?_
  refine J_il (pc := 26) dX0_powerIn_26 (by first | exact hou_a3 (by assumption) | rfl) (by first | with_reducible rfl | assumption | exact ix_nI _ | rfl) ⟨by first | decide | omega, by decide⟩ ?_
  refine J_t1 ((hHC.2.2.2.2.1 _ hr).1) ?_
  refine J_iadd (pc := 27) dX0_powerIn_27 ?_
  refine J_il (pc := 28) dX0_powerIn_28 (by first | exact cvn_e (by assumption) | rfl) (by first | exact nI_add 15 _ | (rw [ix_nI]; exact nI_add 15 _)) ⟨by first | decide | omega, by decide⟩ ?_
  refine J_t1 (hRC.2.2.2.2.2.2.1 _ ho) ?_
  refine J_aload_n (pc := 29) dX0_powerIn_29 rfl ?_
  refine J_getr (pc := 30) dX0_powerIn_30 kc0 fl_X0_11 (by first | exact cvn_r0 (by assumption) | rfl) ?_
  refine J_iconst (pc := 33) (v := 0) dX0_powerIn_33 (by decide) ?_
  refine J_il (pc := 34) dX0_powerIn_34 (by first | exact cvn_e (by assumption) | rfl) (rfl : (0 : Int32) = nI 0) ⟨by first | decide | omega, by decide⟩ ?_
  refine J_t1 (hRC.1) ?_
  refine J_iload_n (pc := 35) dX0_powerIn_35 rfl ?_
  refine J_iadd (pc := 36) dX0_powerIn_36 ?_
  refine J_cvw (pc := 37) (N := mX0_powerIf) dX0_powerIn_37 ml_X0_81 cf_X0_powerIf cv_X0_powerIf (r_X0_powerIf hX hr) rfl rfl (Nat.le_of_ble_eq_true rfl) (by decide) (rv_of (ci := 0) (by first | exact cvn_n (by assumption) | rfl) rfl rfl) ?_
  intro T
  exact J_iret (pc := 40) rfl rfl rfl dX0_powerIn_40 (rqw hQ (pwX_c (fun h => congrArg (fun z => z + k) (hRC.2.2.2.2.2.1 r hr h))) rfl)
theorem r_X0_powerIfLapsed {g : Gp} {S : Sx} {r : Nat} {k : Int32} {c e i a b m : Nat} {d : HD} {wv : Nat → Nat × Nat} {f : Row} (hX : CX S c e i a b d m wv f) (hr : r < dNr d) : RW g mX0_powerIfLapsed 4 [.ref c, .int (nI r), .int k] S (some (.int (pwX d m wv f r (f (16 + r) / 2 + k) (f (8 + dOw d r) + 1) (f 44 + k)))) S := by
  refine RW_ofQ ⟨rfl, rfl⟩ (Nat.le_of_ble_eq_true rfl) (fun T sz Q hQ => ?_)
  obtain ⟨hCL, hHL, hLL, hp2, hp3, hHC, hv, hW, hLC, hRC⟩ := id hX
  have n1 : dNs d ≤ 8 := hv.1
  have n2 : dNr d ≤ 10 := hv.2.1
  have n3 : dNp d ≤ 8 := hv.2.2.1
  have ho : dOw d r < dNs d := (hv.2.2.2.2.2.1 r hr).1
  refine J_aload_n (pc := 0) dX0_powerIfLapsed_0 rfl ?_
  refine J_iload_n (pc := 1) dX0_powerIfLapsed_1 rfl ?_
  refine J_aload_n (pc := 2) dX0_powerIfLapsed_2 rfl ?_
  refine J_getr (pc := 3) dX0_powerIfLapsed_3 kc0 fl_X0_11 (by first | exact cvn_r0 (by assumption) | rfl) ?_
  refine J_iconst (pc := 6) (v := 5) dX0_powerIfLapsed_6 (by decide) ?_
  refine J_iload_n (pc := 7) dX0_powerIfLapsed_7 rfl ?_
  refine J_iadd (pc := 8) dX0_powerIfLapsed_8 ?_
  refine J_il (pc := 9) dX0_powerIfLapsed_9 (by first | exact cvn_e (by assumption) | rfl) (by first | exact nI_add 5 _ | (rw [ix_nI]; exact nI_add 5 _)) ⟨by first | decide | omega, by decide⟩ ?_
  refine J_iconst (pc := 10) (v := 2) dX0_powerIfLapsed_10 (by decide) ?_
  refine J_idiv (pc := 11) dX0_powerIfLapsed_11 (by decide) ?_
  refine J_iload_n (pc := 12) dX0_powerIfLapsed_12 rfl ?_
  refine J_iadd (pc := 13) dX0_powerIfLapsed_13 ?_
  refine J_aload_n (pc := 14) dX0_powerIfLapsed_14 rfl ?_
  refine J_getr (pc := 15) dX0_powerIfLapsed_15 kc0 fl_X0_11 (by first | exact cvn_r0 (by assumption) | rfl) ?_
  refine J_bipush (pc := 18) (v := 15) dX0_powerIfLapsed_18 (by decide) ?_
  refine J_aload_n (pc := 20) dX0_powerIfLapsed_20 rfl ?_
  refine J_getp (pc := 21) dX0_powerIfLapsed_21 kc0 fl_X0_20 (by first | exact cvn_p2 (by assumption) | rfl) ?_
  refine J_tr hp2 ?_
  refine J_getrN (pc := 24) dX0_powerIfLapsed_24 kc1 fl_X0_60 (by first | exact hou_r3 (by assumption) | rfl) ?_
  refine J_iload_n (pc := 27) dX0_powerIfLapsed_27 rfl ?_
  refine J_il (pc := 28) dX0_powerIfLapsed_28 (by first | exact hou_a3 (by assumption) | rfl) (by first | with_reducible rfl | assumption | exact ix_nI _ | rfl) ⟨by first | decide | omega, by decide⟩ ?_
  refine J_t1 ((hHC.2.2.2.2.1 _ hr).1) ?_
  refine J_iadd (pc := 29) dX0_powerIfLapsed_29 ?_
  refine J_il (pc := 30) dX0_powerIfLapsed_30 (by first | exact cvn_e (by assumption) | rfl) (by first | exact nI_add 15 _ | (rw [ix_nI]; exact nI_add 15 _)) ⟨by first | decide | omega, by decide⟩ ?_
  refine J_t1 (hRC.2.2.2.2.2.2.1 _ ho) ?_
  refine J_iconst (pc := 31) (v := 1) dX0_powerIfLapsed_31 (by decide) ?_
  refine J_iadd (pc := 32) dX0_powerIfLapsed_32 ?_
  refine J_aload_n (pc := 33) dX0_powerIfLapsed_33 rfl ?_
  refine J_getr (pc := 34) dX0_powerIfLapsed_34 kc0 fl_X0_11 (by first | exact cvn_r0 (by assumption) | rfl) ?_
  refine J_iconst (pc := 37) (v := 0) dX0_powerIfLapsed_37 (by decide) ?_
  refine J_il (pc := 38) dX0_powerIfLapsed_38 (by first | exact cvn_e (by assumption) | rfl) (rfl : (0 : Int32) = nI 0) ⟨by first | decide | omega, by decide⟩ ?_
  refine J_t1 (hRC.1) ?_
  refine J_iload_n (pc := 39) dX0_powerIfLapsed_39 rfl ?_
  refine J_iadd (pc := 40) dX0_powerIfLapsed_40 ?_
  refine J_cvw (pc := 41) (N := mX0_powerIf) dX0_powerIfLapsed_41 ml_X0_81 cf_X0_powerIf cv_X0_powerIf (r_X0_powerIf hX hr) rfl rfl (Nat.le_of_ble_eq_true rfl) (by decide) (rv_of (ci := 0) (by first | exact cvn_n (by assumption) | rfl) rfl rfl) ?_
  intro T
  exact J_iret (pc := 44) rfl rfl rfl dX0_powerIfLapsed_44 (rqw hQ (pwX_c (fun h => congrArg (fun z => z / 2 + k) (hRC.2.2.2.2.2.1 r hr h))) rfl)
theorem r_X0_powerOf {g : Gp} {S : Sx} {r : Nat} {c e i a b m : Nat} {d : HD} {wv : Nat → Nat × Nat} {f : Row} (hX : CX S c e i a b d m wv f) (hr : r < dNr d) : RW g mX0_powerOf 5 [.ref c, .int (nI r)] S (some (.int (pwN d m wv f r))) S := by
  refine RW_ofQ ⟨rfl, rfl⟩ (Nat.le_of_ble_eq_true rfl) (fun T sz Q hQ => ?_)
  obtain ⟨hCL, hHL, hLL, hp2, hp3, hHC, hv, hW, hLC, hRC⟩ := id hX
  have n1 : dNs d ≤ 8 := hv.1
  have n2 : dNr d ≤ 10 := hv.2.1
  have n3 : dNp d ≤ 8 := hv.2.2.1
  refine J_aload_n (pc := 0) dX0_powerOf_0 rfl ?_
  refine J_iload_n (pc := 1) dX0_powerOf_1 rfl ?_
  refine J_iconst (pc := 2) (v := 0) dX0_powerOf_2 (by decide) ?_
  refine J_cvw (pc := 3) (N := mX0_powerIn) dX0_powerOf_3 ml_X0_85 cf_X0_powerIn cv_X0_powerIn (r_X0_powerIn hX hr) rfl rfl (Nat.le_of_ble_eq_true rfl) (by decide) (rv_of (ci := 0) (by first | exact cvn_n (by assumption) | rfl) rfl rfl) ?_
  intro T
  exact J_iret (pc := 6) rfl rfl rfl dX0_powerOf_6 (rqw hQ pwX_0 rfl)
theorem r_X0_powerOfAll {g : Gp} {S : Sx} {c e i a b m : Nat} {d : HD} {wv : Nat → Nat × Nat} {f : Row} (hX : CX S c e i a b d m wv f) : RW g mX0_powerOfAll 6 [.ref c] S (some (.int (sm (pwN d m wv f) (dNr d)))) S := by
  refine RW_ofQ ⟨rfl, rfl⟩ (Nat.le_of_ble_eq_true rfl) (fun T sz Q hQ => ?_)
  obtain ⟨hCL, hHL, hLL, hp2, hp3, hHC, hv, hW, hLC, hRC⟩ := id hX
  have n1 : dNs d ≤ 8 := hv.1
  have n2 : dNr d ≤ 10 := hv.2.1
  have n3 : dNp d ≤ 8 := hv.2.2.1
  refine J_iconst (pc := 0) (v := 0) dX0_powerOfAll_0 (by decide) ?_
  refine J_istore_n (pc := 1) dX0_powerOfAll_1 (by decide) rfl ?_
  refine J_iconst (pc := 2) (v := 0) dX0_powerOfAll_2 (by decide) ?_
  refine J_istore_n (pc := 3) dX0_powerOfAll_3 (by decide) rfl ?_
  show J g mX0_powerOfAll 6 [] 4 [some (.ref c), some (.int 0), some (.int 0)] [] (hs (w1 S T)) sz 0 0 Q
  refine dn_ind (n := dNr d) (P := fun i => ∀ T, J g mX0_powerOfAll 6 [] 4 [some (.ref c), some (.int (sm (pwN d m wv f) i)), some (.int (ix i))] [] (hs (w1 S T)) sz 0 0 Q) ?_ (fun i hi ih => ?_) 0 (Nat.zero_le _) _
  · intro T
    refine J_iload_n (pc := 4) dX0_powerOfAll_4 rfl ?_
    refine J_aload_n (pc := 5) dX0_powerOfAll_5 rfl ?_
    refine J_getp (pc := 6) dX0_powerOfAll_6 kc0 fl_X0_20 (by first | exact cvn_p2 (by assumption) | rfl) ?_
    refine J_tr hp2 ?_
    refine J_getiN (pc := 9) dX0_powerOfAll_9 kc1 fl_X0_89 (by first | exact hou_i9 (by assumption) | rfl) ?_
    refine J_icmp_ge (pc := 12) (tgt := 29) dX0_powerOfAll_12 (by decide) (fun c12 => ?_) (fun c12 => absurd (ix_ge hHC.2.1) c12)
    refine J_iload_n (pc := 29) dX0_powerOfAll_29 rfl ?_
    exact J_iret (pc := 30) rfl rfl rfl dX0_powerOfAll_30 (rqw hQ rfl rfl)
  · intro T
    refine J_iload_n (pc := 4) dX0_powerOfAll_4 rfl ?_
    refine J_aload_n (pc := 5) dX0_powerOfAll_5 rfl ?_
    refine J_getp (pc := 6) dX0_powerOfAll_6 kc0 fl_X0_20 (by first | exact cvn_p2 (by assumption) | rfl) ?_
    refine J_tr hp2 ?_
    refine J_getiN (pc := 9) dX0_powerOfAll_9 kc1 fl_X0_89 (by first | exact hou_i9 (by assumption) | rfl) ?_
    refine J_icmp_ge (pc := 12) (tgt := 29) dX0_powerOfAll_12 (by decide) (fun c12 => absurd c12 (ix_lt hHC.2.1 hi (by omega))) (fun c12 => ?_)
    refine J_iload_n (pc := 15) dX0_powerOfAll_15 rfl ?_
    refine J_aload_n (pc := 16) dX0_powerOfAll_16 rfl ?_
    refine J_iload_n (pc := 17) dX0_powerOfAll_17 rfl ?_
    refine J_t1 (ix_nI i) ?_
    refine J_cvw (pc := 18) (N := mX0_powerOf) dX0_powerOfAll_18 ml_X0_92 cf_X0_powerOf cv_X0_powerOf (r_X0_powerOf hX hi) rfl rfl (Nat.le_of_ble_eq_true rfl) (by decide) (rv_of (ci := 0) (by first | exact cvn_n (by assumption) | rfl) rfl rfl) ?_
    intro T
    refine J_iadd (pc := 21) dX0_powerOfAll_21 ?_
    refine J_istore_n (pc := 22) dX0_powerOfAll_22 (by decide) rfl ?_
    refine J_iinc (pc := 23) (v := 1) dX0_powerOfAll_23 rfl (by decide) rfl ?_
    refine J_goto (pc := 26) (tgt := 4) dX0_powerOfAll_26 (by decide) ?_
    exact ih T
theorem r_X0_canIn {g : Gp} {S : Sx} {r p : Nat} {k : Int32} {c e i a b m : Nat} {d : HD} {wv : Nat → Nat × Nat} {f : Row} (hX : CX S c e i a b d m wv f) (hr : r < dNr d) (hp : p < dNp d) : RW g mX0_canIn 4 [.ref c, .int (nI r), .int (nI p), .int k] S (some (.int (bI (decide (cnB d m wv f r p k = true))))) S := by
  refine RW_ofQ ⟨rfl, rfl⟩ (Nat.le_of_ble_eq_true rfl) (fun T sz Q hQ => ?_)
  obtain ⟨hCL, hHL, hLL, hp2, hp3, hHC, hv, hW, hLC, hRC⟩ := id hX
  have n1 : dNs d ≤ 8 := hv.1
  have n2 : dNr d ≤ 10 := hv.2.1
  have n3 : dNp d ≤ 8 := hv.2.2.1
  have ho : dOw d r < dNs d := (hv.2.2.2.2.2.1 r hr).1
  have i1 : dIl d r < 6 := (hv.2.2.2.2.2.1 r hr).2.1
  have i2 : dPi d p < 6 := (hv.2.2.2.2.2.2 p hp).1
  refine J_aload_n (pc := 0) dX0_canIn_0 rfl ?_
  refine J_getr (pc := 1) dX0_canIn_1 kc0 fl_X0_11 (by first | exact cvn_r0 (by assumption) | rfl) ?_
  refine J_bipush (pc := 4) (v := 15) dX0_canIn_4 (by decide) ?_
  refine J_aload_n (pc := 6) dX0_canIn_6 rfl ?_
  refine J_getp (pc := 7) dX0_canIn_7 kc0 fl_X0_20 (by first | exact cvn_p2 (by assumption) | rfl) ?_
  refine J_tr hp2 ?_
  refine J_getrN (pc := 10) dX0_canIn_10 kc1 fl_X0_60 (by first | exact hou_r3 (by assumption) | rfl) ?_
  refine J_iload_n (pc := 13) dX0_canIn_13 rfl ?_
  refine J_il (pc := 14) dX0_canIn_14 (by first | exact hou_a3 (by assumption) | rfl) (by first | with_reducible rfl | assumption | exact ix_nI _ | rfl) ⟨by first | decide | omega, by decide⟩ ?_
  refine J_t1 ((hHC.2.2.2.2.1 _ hr).1) ?_
  refine J_iadd (pc := 15) dX0_canIn_15 ?_
  refine J_il (pc := 16) dX0_canIn_16 (by first | exact cvn_e (by assumption) | rfl) (by first | exact nI_add 15 _ | (rw [ix_nI]; exact nI_add 15 _)) ⟨by first | decide | omega, by decide⟩ ?_
  refine J_t1 (hRC.2.2.2.2.2.2.1 _ ho) ?_
  refine J_istore (pc := 17) dX0_canIn_17 (by decide) rfl ?_
  refine J_aload_n (pc := 19) dX0_canIn_19 rfl ?_
  refine J_getp (pc := 20) dX0_canIn_20 kc0 fl_X0_20 (by first | exact cvn_p2 (by assumption) | rfl) ?_
  refine J_tr hp2 ?_
  refine J_getrN (pc := 23) dX0_canIn_23 kc1 fl_X0_69 (by first | exact hou_r4 (by assumption) | rfl) ?_
  refine J_iload_n (pc := 26) dX0_canIn_26 rfl ?_
  refine J_il (pc := 27) dX0_canIn_27 (by first | exact hou_a4 (by assumption) | rfl) (by first | with_reducible rfl | assumption | exact ix_nI _ | rfl) ⟨by first | decide | omega, by decide⟩ ?_
  refine J_t1 ((hHC.2.2.2.2.1 _ hr).2.1) ?_
  refine J_aload_n (pc := 28) dX0_canIn_28 rfl ?_
  refine J_getp (pc := 29) dX0_canIn_29 kc0 fl_X0_20 (by first | exact cvn_p2 (by assumption) | rfl) ?_
  refine J_tr hp2 ?_
  refine J_getrN (pc := 32) dX0_canIn_32 kc1 fl_X0_95 (by first | exact hou_r6 (by assumption) | rfl) ?_
  refine J_iload_n (pc := 35) dX0_canIn_35 rfl ?_
  refine J_il (pc := 36) dX0_canIn_36 (by first | exact hou_a6 (by assumption) | rfl) (by first | with_reducible rfl | assumption | exact ix_nI _ | rfl) ⟨by first | decide | omega, by decide⟩ ?_
  refine J_t1 ((hHC.2.2.2.2.2 _ hp).1) ?_
  refine J_icmp_ne (pc := 37) (tgt := 81) dX0_canIn_37 (by decide) (fun c37 => ?_) (fun c37 => ?_)
  · refine J_iconst (pc := 81) (v := 0) dX0_canIn_81 (by decide) ?_
    exact J_iret (pc := 82) rfl rfl rfl dX0_canIn_82 (rqw hQ (by first | exact Eq.symm (bI_t (cnB_i.mpr ⟨(nI_eq (by omega) (by omega)).mp c37, Int32.not_lt.mp c74⟩)) | exact Eq.symm (bI_f (fun q => c37 ((nI_eq (by omega) (by omega)).mpr (cnB_i.mp q).1))) | exact Eq.symm (bI_f (fun q => Int32.not_le.mpr c74 (cnB_i.mp q).2))) rfl)
  · refine J_aload_n (pc := 40) dX0_canIn_40 rfl ?_
    refine J_iload_n (pc := 41) dX0_canIn_41 rfl ?_
    refine J_aload_n (pc := 42) dX0_canIn_42 rfl ?_
    refine J_getr (pc := 43) dX0_canIn_43 kc0 fl_X0_11 (by first | exact cvn_r0 (by assumption) | rfl) ?_
    refine J_iconst (pc := 46) (v := 5) dX0_canIn_46 (by decide) ?_
    refine J_iload_n (pc := 47) dX0_canIn_47 rfl ?_
    refine J_iadd (pc := 48) dX0_canIn_48 ?_
    refine J_il (pc := 49) dX0_canIn_49 (by first | exact cvn_e (by assumption) | rfl) (by first | exact nI_add 5 _ | (rw [ix_nI]; exact nI_add 5 _)) ⟨by first | decide | omega, by decide⟩ ?_
    refine J_iload_n (pc := 50) dX0_canIn_50 rfl ?_
    refine J_iadd (pc := 51) dX0_canIn_51 ?_
    refine J_iload (pc := 52) dX0_canIn_52 rfl ?_
    refine J_aload_n (pc := 54) dX0_canIn_54 rfl ?_
    refine J_getr (pc := 55) dX0_canIn_55 kc0 fl_X0_11 (by first | exact cvn_r0 (by assumption) | rfl) ?_
    refine J_iconst (pc := 58) (v := 0) dX0_canIn_58 (by decide) ?_
    refine J_il (pc := 59) dX0_canIn_59 (by first | exact cvn_e (by assumption) | rfl) (rfl : (0 : Int32) = nI 0) ⟨by first | decide | omega, by decide⟩ ?_
    refine J_t1 (hRC.1) ?_
    refine J_iload_n (pc := 60) dX0_canIn_60 rfl ?_
    refine J_iadd (pc := 61) dX0_canIn_61 ?_
    refine J_cvw (pc := 62) (N := mX0_powerIf) dX0_canIn_62 ml_X0_81 cf_X0_powerIf cv_X0_powerIf (r_X0_powerIf hX hr) rfl rfl (Nat.le_of_ble_eq_true rfl) (by decide) (rv_of (ci := 0) (by first | exact cvn_n (by assumption) | rfl) rfl rfl) ?_
    intro T
    refine J_t1 (y := pwX d m wv f r (f (16 + r) + k) (f (8 + dOw d r)) (f 44 + k)) (pwX_c (fun h => congrArg (fun z => z + k) (hRC.2.2.2.2.2.1 r hr h))) ?_
    refine J_aload_n (pc := 65) dX0_canIn_65 rfl ?_
    refine J_getp (pc := 66) dX0_canIn_66 kc0 fl_X0_20 (by first | exact cvn_p2 (by assumption) | rfl) ?_
    refine J_tr hp2 ?_
    refine J_getrN (pc := 69) dX0_canIn_69 kc1 fl_X0_98 (by first | exact hou_r7 (by assumption) | rfl) ?_
    refine J_iload_n (pc := 72) dX0_canIn_72 rfl ?_
    refine J_il (pc := 73) dX0_canIn_73 (by first | exact hou_a7 (by assumption) | rfl) (by first | with_reducible rfl | assumption | exact ix_nI _ | rfl) ⟨by first | decide | omega, by decide⟩ ?_
    refine J_t1 ((hHC.2.2.2.2.2 _ hp).2) ?_
    refine J_icmp_lt (pc := 74) (tgt := 81) dX0_canIn_74 (by decide) (fun c74 => ?_) (fun c74 => ?_)
    · refine J_iconst (pc := 81) (v := 0) dX0_canIn_81 (by decide) ?_
      exact J_iret (pc := 82) rfl rfl rfl dX0_canIn_82 (rqw hQ (by first | exact Eq.symm (bI_t (cnB_i.mpr ⟨(nI_eq (by omega) (by omega)).mp c37, Int32.not_lt.mp c74⟩)) | exact Eq.symm (bI_f (fun q => c37 ((nI_eq (by omega) (by omega)).mpr (cnB_i.mp q).1))) | exact Eq.symm (bI_f (fun q => Int32.not_le.mpr c74 (cnB_i.mp q).2))) rfl)
    · refine J_iconst (pc := 77) (v := 1) dX0_canIn_77 (by decide) ?_
      refine J_goto (pc := 78) (tgt := 82) dX0_canIn_78 (by decide) ?_
      exact J_iret (pc := 82) rfl rfl rfl dX0_canIn_82 (rqw hQ (by first | exact Eq.symm (bI_t (cnB_i.mpr ⟨(nI_eq (by omega) (by omega)).mp c37, Int32.not_lt.mp c74⟩)) | exact Eq.symm (bI_f (fun q => c37 ((nI_eq (by omega) (by omega)).mpr (cnB_i.mp q).1))) | exact Eq.symm (bI_f (fun q => Int32.not_le.mpr c74 (cnB_i.mp q).2))) rfl)
theorem r_X0_relicsThatCan {g : Gp} {S : Sx} {p : Nat} {k : Int32} {c e i a b m : Nat} {d : HD} {wv : Nat → Nat × Nat} {f : Row} (hX : CX S c e i a b d m wv f) (hp : p < dNp d) : RW g mX0_relicsThatCan 5 [.ref c, .int (nI p), .int k] S (some (.int (msk (fun r => cnB d m wv f r p k) (dNr d)))) S := by
  refine RW_ofQ ⟨rfl, rfl⟩ (Nat.le_of_ble_eq_true rfl) (fun T sz Q hQ => ?_)
  obtain ⟨hCL, hHL, hLL, hp2, hp3, hHC, hv, hW, hLC, hRC⟩ := id hX
  have n1 : dNs d ≤ 8 := hv.1
  have n2 : dNr d ≤ 10 := hv.2.1
  have n3 : dNp d ≤ 8 := hv.2.2.1
  refine J_iconst (pc := 0) (v := 0) dX0_relicsThatCan_0 (by decide) ?_
  refine J_istore_n (pc := 1) dX0_relicsThatCan_1 (by decide) rfl ?_
  refine J_iconst (pc := 2) (v := 0) dX0_relicsThatCan_2 (by decide) ?_
  refine J_istore (pc := 3) dX0_relicsThatCan_3 (by decide) rfl ?_
  show J g mX0_relicsThatCan 5 [] 5 [some (.ref c), some (.int (nI p)), some (.int k), some (.int 0), some (.int 0)] [] (hs (w1 S T)) sz 0 0 Q
  refine dn_ind (n := dNr d) (P := fun i => ∀ T, J g mX0_relicsThatCan 5 [] 5 [some (.ref c), some (.int (nI p)), some (.int k), some (.int (msk (fun r => cnB d m wv f r p k) i)), some (.int (ix i))] [] (hs (w1 S T)) sz 0 0 Q) ?_ (fun i hi ih => ?_) 0 (Nat.zero_le _) _
  · intro T
    refine J_iload (pc := 5) dX0_relicsThatCan_5 rfl ?_
    refine J_aload_n (pc := 7) dX0_relicsThatCan_7 rfl ?_
    refine J_getp (pc := 8) dX0_relicsThatCan_8 kc0 fl_X0_20 (by first | exact cvn_p2 (by assumption) | rfl) ?_
    refine J_tr hp2 ?_
    refine J_getiN (pc := 11) dX0_relicsThatCan_11 kc1 fl_X0_89 (by first | exact hou_i9 (by assumption) | rfl) ?_
    refine J_icmp_ge (pc := 14) (tgt := 41) dX0_relicsThatCan_14 (by decide) (fun c14 => ?_) (fun c14 => absurd (ix_ge hHC.2.1) c14)
    refine J_iload_n (pc := 41) dX0_relicsThatCan_41 rfl ?_
    exact J_iret (pc := 42) rfl rfl rfl dX0_relicsThatCan_42 (rqw hQ rfl rfl)
  · intro T
    refine J_iload (pc := 5) dX0_relicsThatCan_5 rfl ?_
    refine J_aload_n (pc := 7) dX0_relicsThatCan_7 rfl ?_
    refine J_getp (pc := 8) dX0_relicsThatCan_8 kc0 fl_X0_20 (by first | exact cvn_p2 (by assumption) | rfl) ?_
    refine J_tr hp2 ?_
    refine J_getiN (pc := 11) dX0_relicsThatCan_11 kc1 fl_X0_89 (by first | exact hou_i9 (by assumption) | rfl) ?_
    refine J_icmp_ge (pc := 14) (tgt := 41) dX0_relicsThatCan_14 (by decide) (fun c14 => absurd c14 (ix_lt hHC.2.1 hi (by omega))) (fun c14 => ?_)
    refine J_aload_n (pc := 17) dX0_relicsThatCan_17 rfl ?_
    refine J_iload (pc := 18) dX0_relicsThatCan_18 rfl ?_
    refine J_t1 (ix_nI i) ?_
    refine J_iload_n (pc := 20) dX0_relicsThatCan_20 rfl ?_
    refine J_iload_n (pc := 21) dX0_relicsThatCan_21 rfl ?_
    refine J_cvw (pc := 22) (N := mX0_canIn) dX0_relicsThatCan_22 ml_X0_101 cf_X0_canIn cv_X0_canIn (r_X0_canIn hX hi hp) rfl rfl (Nat.le_of_ble_eq_true rfl) (by decide) (rv_of (ci := 0) (by first | exact cvn_n (by assumption) | rfl) rfl rfl) ?_
    intro T
    refine J_ifp_eq (pc := 25) (tgt := 35) dX0_relicsThatCan_25 (by decide) (fun c25 => ?_) (fun c25 => ?_)
    · rw [msk_f0 (p := (fun r => cnB d m wv f r p k)) (n := i) c25]
      refine J_iinc (pc := 35) (v := 1) dX0_relicsThatCan_35 rfl (by decide) rfl ?_
      refine J_goto (pc := 38) (tgt := 5) dX0_relicsThatCan_38 (by decide) ?_
      exact ih T
    · refine J_iload_n (pc := 28) dX0_relicsThatCan_28 rfl ?_
      refine J_iconst (pc := 29) (v := 1) dX0_relicsThatCan_29 (by decide) ?_
      refine J_iload (pc := 30) dX0_relicsThatCan_30 rfl ?_
      refine J_ishl (pc := 32) dX0_relicsThatCan_32 ?_
      refine J_ior (pc := 33) dX0_relicsThatCan_33 ?_
      refine J_t1 (msk_t (p := (fun r => cnB d m wv f r p k)) (n := i) c25) ?_
      refine J_istore_n (pc := 34) dX0_relicsThatCan_34 (by decide) rfl ?_
      refine J_iinc (pc := 35) (v := 1) dX0_relicsThatCan_35 rfl (by decide) rfl ?_
      refine J_goto (pc := 38) (tgt := 5) dX0_relicsThatCan_38 (by decide) ?_
      exact ih T
