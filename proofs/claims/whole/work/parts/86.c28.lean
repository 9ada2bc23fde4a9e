/-! ===== match, matched ===== -/
theorem cuJ_cg {al al' : Nat → Int32} {np : Nat} (h : ∀ p, p < np → al p = al' p) : ∀ j, j ≤ np → cuJ al np j = cuJ al' np j
  | 0, _ => rfl
  | j + 1, hj => by
    show cuJ al np j + (if al (np - 1 - j) = 0 then 0 else 1) = cuJ al' np j + (if al' (np - 1 - j) = 0 then 0 else 1)
    rw [cuJ_cg h j (by omega), h (np - 1 - j) (by omega)]
theorem mal_A {S : Sx} {d : HD} (hG : HG S d) (hv : HV d) {m : Nat} {wv : Nat → Nat × Nat} {p : Nat} (hp : p < dNp d) : mal S (dNr d) (dOw d) m wv p = alM d m wv (sa S 535) p := by
  unfold mal alM
  refine msk_congr (fun r hr => ?_)
  unfold mcp
  refine decide_eq_decide.mpr ?_
  rw [mab_A hG hv hr hp]
  rfl
theorem mtR_A {S : Sx} {d : HD} (hG : HG S d) (hv : HV d) {m : Nat} {wv : Nat → Nat × Nat} : (mtR S (dNr d) (dNp d) (dOw d) m wv).2.2 = nI (mx (eM d m wv (sa S 535)) (dNp d) 0 (fun _ => false)) ∧ ∀ p, p < dNp d → (mtR S (dNr d) (dNp d) (dOw d) m wv).2.1 p = lx (eM d m wv (sa S 535)) (dNp d) 0 (fun _ => false) p := by
  have e : mtR S (dNr d) (dNp d) (dOw d) m wv = mfr (alM d m wv (sa S 535)) (fun p => cuJ (alM d m wv (sa S 535)) (dNp d) (dNp d - p)) (dNr d) (dNp d) 0 0 0 (sa S 558, sa S 559, -1) := by
    unfold mtR
    exact mfr_congr (fun p hp => mal_A hG hv hp) (fun p hp => cuJ_cg (fun p hp => mal_A hG hv hp) _ (by omega)) (dNp d) 0 0 0 _ (by omega)
  obtain ⟨-, -, h3⟩ := mfr_ok (al := alM d m wv (sa S 535)) (E := eM d m wv (sa S 535)) (nr := dNr d) (np := dNp d) hv.2.1 (fun p r _ => rfl) (fun p r hr => eM_n hv hr) (dNp d) 0 0 0 0 (fun _ => false) (sa S 558, sa S 559, -1) (by omega) hv.2.2.1 (Nat.le_refl _) (by decide) (fun r hr => bt_0 r) rfl
  obtain ⟨h4, -, h6⟩ := h3 (Nat.not_lt_zero _)
  rw [e]
  refine ⟨?_, fun p hp => h6 p (Nat.zero_le _) (by omega)⟩
  rw [show mx (eM d m wv (sa S 535)) (dNp d) 0 (fun _ => false) = 0 + mx (eM d m wv (sa S 535)) (dNp d) 0 (fun _ => false) from (Nat.zero_add _).symm]
  exact h4
theorem r_X10_match {g : Gp} {S : Sx} {a b m : Nat} {d : HD} {wv : Nat → Nat × Nat} {f : Row} (hX : CX S 3 16 17 a b d m wv f) : RI g mX10_match 12 [.ref 0] S (fun x X => x = nI (mx (eM d m wv f) (dNp d) 0 (fun _ => false)) ∧ FRC prF prA S X) := by
  refine RI_ofQ ⟨rfl, rfl⟩ (Nat.le_of_ble_eq_true rfl) (fun sz Q hQ => ?_)
  refine J_aload_n (pc := 0) dX10_match_0 rfl ?_
  refine J_getr (pc := 1) dX10_match_1 kc10 fl_X10_48 rfl ?_
  refine J_aload_n (pc := 4) dX10_match_4 rfl ?_
  refine J_getr (pc := 5) dX10_match_5 kc10 fl_X10_27 rfl ?_
  refine J_cnU (pc := 8) (N := mX3_pair) dX10_match_8 ml_X10_271 cf_X3_pair cv_X3_pair (r_X3_pair hX) rfl rfl (Nat.le_of_ble_eq_true rfl) (by decide) (rv_of (ci := 3) rfl rfl rfl) ?_
  intro X8 hX8
  obtain ⟨hf, h26⟩ := hX8
  have hXX := CX_pr hX hf
  have q2 : sp X8 3 2 = a := hXX.2.2.2.1
  have q10 : sf X8 a 10 = nI (dNp d) := hXX.2.2.2.2.2.1.2.2.1
  have n3 : dNp d ≤ 8 := hX.2.2.2.2.2.2.1.2.2.1
  have hHL := hX.2.1
  refine J_iconst (pc := 11) (v := 0) dX10_match_11 (by decide) ?_
  refine J_istore_n (pc := 12) dX10_match_12 (by decide) rfl ?_
  refine J_iconst (pc := 13) (v := 0) dX10_match_13 (by decide) ?_
  refine J_istore_n (pc := 14) dX10_match_14 (by decide) rfl ?_
  have key : ∀ m0 p, p + m0 = dNp d → J g mX10_match 12 [] 15 [some (.ref 0), some (.int (nI (cn (fun j => decide (lx (eM d m wv f) (dNp d) 0 (fun _ => false) (0 + j) ≠ -1)) p))), some (.int (nI p))] [] (hs X8) sz 0 0 Q := by
    intro m0
    induction m0 with
    | zero =>
      intro p hp
      have hpe : p = dNp d := by omega
      subst hpe
      refine J_iload_n (pc := 15) dX10_match_15 rfl ?_
      refine J_aload_n (pc := 16) dX10_match_16 rfl ?_
      refine J_getr (pc := 17) dX10_match_17 kc10 fl_X10_27 rfl ?_
      refine J_getpN (pc := 20) dX10_match_20 kc0 fl_X10_54 (by first | exact cvn_p2 (by assumption) | rfl) ?_
      refine J_tr q2 ?_
      refine J_getiN (pc := 23) dX10_match_23 kc1 fl_X10_188 (by first | exact hou_i10 (by assumption) | rfl) ?_
      refine J_t1 q10 ?_
      refine J_icmp_ge (pc := 26) (tgt := 51) dX10_match_26 (by decide) (fun c26 => ?_) (fun c26 => absurd (Int32.le_refl _) c26)
      refine J_iload_n (pc := 51) dX10_match_51 rfl ?_
      exact J_iret (pc := 52) rfl rfl rfl dX10_match_52 (hQ _ _ ⟨by rw [lx_cn], hf⟩)
    | succ m0 ih =>
      intro p hp
      have h26p := h26 p (by omega)
      refine J_iload_n (pc := 15) dX10_match_15 rfl ?_
      refine J_aload_n (pc := 16) dX10_match_16 rfl ?_
      refine J_getr (pc := 17) dX10_match_17 kc10 fl_X10_27 rfl ?_
      refine J_getpN (pc := 20) dX10_match_20 kc0 fl_X10_54 (by first | exact cvn_p2 (by assumption) | rfl) ?_
      refine J_tr q2 ?_
      refine J_getiN (pc := 23) dX10_match_23 kc1 fl_X10_188 (by first | exact hou_i10 (by assumption) | rfl) ?_
      refine J_t1 q10 ?_
      refine J_icmp_ge (pc := 26) (tgt := 51) dX10_match_26 (by decide) (fun c26 => absurd c26 (nI_ge (by omega) (by omega))) (fun c26 => ?_)
      refine J_aload_n (pc := 29) dX10_match_29 rfl ?_
      refine J_getr (pc := 30) dX10_match_30 kc10 fl_X10_48 rfl ?_
      refine J_getrN (pc := 33) dX10_match_33 kc3 fl_X10_275 rfl ?_
      refine J_iload_n (pc := 36) dX10_match_36 rfl ?_
      refine J_il (pc := 37) dX10_match_37 rfl rfl ⟨by omega, by decide⟩ ?_
      refine J_t1 h26p ?_
      refine J_iconst (pc := 38) (v := -1) dX10_match_38 (by decide) ?_
      refine J_icmp_eq (pc := 39) (tgt := 45) dX10_match_39 (by decide) (fun c39 => ?_) (fun c39 => ?_)
      · have hb0 : b2 (decide (lx (eM d m wv f) (dNp d) 0 (fun _ => false) (0 + p) ≠ -1)) = 0 := b2_f (by rw [Nat.zero_add, c39]; decide)
        refine J_iinc (pc := 45) (v := 1) dX10_match_45 rfl (by decide) rfl ?_
        rw [nI_1]
        refine J_goto (pc := 48) (tgt := 15) dX10_match_48 (by decide) ?_
        have e := ih (p + 1) (by omega)
        rw [show cn (fun j => decide (lx (eM d m wv f) (dNp d) 0 (fun _ => false) (0 + j) ≠ -1)) (p + 1) = cn (fun j => decide (lx (eM d m wv f) (dNp d) 0 (fun _ => false) (0 + j) ≠ -1)) p + b2 (decide (lx (eM d m wv f) (dNp d) 0 (fun _ => false) (0 + p) ≠ -1)) from rfl, hb0] at e
        exact e
      · have hb0 : b2 (decide (lx (eM d m wv f) (dNp d) 0 (fun _ => false) (0 + p) ≠ -1)) = 1 := b2_t (by rw [Nat.zero_add]; exact decide_eq_true c39)
        refine J_iinc (pc := 42) (v := 1) dX10_match_42 rfl (by decide) rfl ?_
        rw [nI_1]
        refine J_iinc (pc := 45) (v := 1) dX10_match_45 rfl (by decide) rfl ?_
        rw [nI_1]
        refine J_goto (pc := 48) (tgt := 15) dX10_match_48 (by decide) ?_
        have e := ih (p + 1) (by omega)
        rw [show cn (fun j => decide (lx (eM d m wv f) (dNp d) 0 (fun _ => false) (0 + j) ≠ -1)) (p + 1) = cn (fun j => decide (lx (eM d m wv f) (dNp d) 0 (fun _ => false) (0 + j) ≠ -1)) p + b2 (decide (lx (eM d m wv f) (dNp d) 0 (fun _ => false) (0 + p) ≠ -1)) from rfl, hb0] at e
        exact e
  exact key (dNp d) 0 (by omega)
theorem r_X10_matched {g : Gp} {S : Sx} {a b m : Nat} {d : HD} {wv : Nat → Nat × Nat} {f : Row} (hX : CX S 3 16 17 a b d m wv f) {p : Nat} (hp : p < dNp d) : RI g mX10_matched 12 [.ref 0, .int (nI p)] S (fun x X => x = lx (eM d m wv f) (dNp d) 0 (fun _ => false) p ∧ FRC prF prA S X) := by
  refine RI_ofQ ⟨rfl, rfl⟩ (Nat.le_of_ble_eq_true rfl) (fun sz Q hQ => ?_)
  obtain ⟨hCL, hHL, hLL, hp2, hp3, hHC, hv, hW, hLC, hRC⟩ := id hX
  have n3 : dNp d ≤ 8 := hv.2.2.1
  refine J_aload_n (pc := 0) dX10_matched_0 rfl ?_
  refine J_aload_n (pc := 1) dX10_matched_1 rfl ?_
  refine J_getr (pc := 2) dX10_matched_2 kc10 fl_X10_27 rfl ?_
  refine J_getpN (pc := 5) dX10_matched_5 kc0 fl_X10_54 (by first | exact cvn_p2 (by assumption) | rfl) ?_
  refine J_tr hp2 ?_
  refine J_iload_n (pc := 8) dX10_matched_8 rfl ?_
  refine J_cnr (pc := 9) (N := mX1_hasPilgrim) dX10_matched_9 ml_X10_236 cf_X1_hasPilgrim cv_X1_hasPilgrim (r_X1_hasPilgrim hHL hHC hv) rfl rfl (Nat.le_of_ble_eq_true rfl) (by decide) (rv_of (ci := 1) (by first | exact hou_n (by assumption) | rfl) rfl rfl) ?_
  refine J_t1 (y := 1) (bI_t (in_nI hp (by omega))) ?_
  refine J_cvv (pc := 12) (N := mX10_needElement) dX10_matched_12 ml_X10_199 cf_X10_needElement cv_X10_needElement r_X10_needElement_ok rfl rfl (Nat.le_of_ble_eq_true rfl) (by decide) (rv_of (ci := 10) rfl rfl rfl) ?_
  refine J_aload_n (pc := 15) dX10_matched_15 rfl ?_
  refine J_getr (pc := 16) dX10_matched_16 kc10 fl_X10_48 rfl ?_
  refine J_aload_n (pc := 19) dX10_matched_19 rfl ?_
  refine J_getr (pc := 20) dX10_matched_20 kc10 fl_X10_27 rfl ?_
  refine J_cnU (pc := 23) (N := mX3_pair) dX10_matched_23 ml_X10_271 cf_X3_pair cv_X3_pair (r_X3_pair hX) rfl rfl (Nat.le_of_ble_eq_true rfl) (by decide) (rv_of (ci := 3) rfl rfl rfl) ?_
  intro X23 hX23
  obtain ⟨hf, h26⟩ := hX23
  refine J_aload_n (pc := 26) dX10_matched_26 rfl ?_
  refine J_getr (pc := 27) dX10_matched_27 kc10 fl_X10_48 rfl ?_
  refine J_getrN (pc := 30) dX10_matched_30 kc3 fl_X10_275 rfl ?_
  refine J_iload_n (pc := 33) dX10_matched_33 rfl ?_
  refine J_il (pc := 34) dX10_matched_34 rfl rfl ⟨by omega, by decide⟩ ?_
  refine J_t1 (h26 p hp) ?_
  exact J_iret (pc := 35) rfl rfl rfl dX10_matched_35 (hQ _ _ ⟨rfl, hf⟩)
