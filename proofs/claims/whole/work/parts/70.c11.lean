theorem CX_off {S X : Sx} {a b m : Nat} {d : HD} {wv : Nat → Nat × Nat} {f : Row} (hX : CX S 3 16 17 a b d m wv f) (h : off3 S X) : CX X 3 16 17 a b d m wv f := by
  obtain ⟨hCL, hHL, hLL, hp2, hp3, hHC, hv, hW, hLC, hRC⟩ := hX
  obtain ⟨o1, o2, o3, -⟩ := h
  have ea : ∀ k, sf X a k = sf S a k := fun k => o1 a k (by rcases hHL with rfl | rfl <;> rfl)
  have eb : ∀ k, sf X b k = sf S b k := fun k => o1 b k (by rcases hLL with rfl | rfl <;> rfl)
  have ha : ∀ k, 1 ≤ k → k ≤ 8 → sa X (a + k) = sa S (a + k) := by
    intro k h1 h2
    refine o3 _ ?_
    obtain rfl | rfl | rfl | rfl | rfl | rfl | rfl | rfl : k = 1 ∨ k = 2 ∨ k = 3 ∨ k = 4 ∨ k = 5 ∨ k = 6 ∨ k = 7 ∨ k = 8 := by omega
    all_goals (rcases hHL with rfl | rfl <;> rfl)
  have hb : sa X (b + 1) = sa S (b + 1) := o3 _ (by rcases hLL with rfl | rfl <;> rfl)
  refine ⟨hCL, hHL, hLL, (o2 3 2 (by decide)).trans hp2, (o2 3 3 (by decide)).trans hp3, ⟨(ea 8).trans hHC.1, (ea 9).trans hHC.2.1, (ea 10).trans hHC.2.2.1, fun s hs => ?_, fun r hr => ?_, fun p hp => ?_⟩, hv, hW, ⟨(eb 2).trans hLC.1, fun k hk => ?_⟩, ?_⟩
  · rw [ha 1 (by omega) (by omega), ha 2 (by omega) (by omega), ha 3 (by omega) (by omega)]; exact hHC.2.2.2.1 s hs
  · rw [ha 4 (by omega) (by omega), ha 5 (by omega) (by omega), ha 6 (by omega) (by omega)]; exact hHC.2.2.2.2.1 r hr
  · rw [ha 7 (by omega) (by omega), ha 8 (by omega) (by omega)]; exact hHC.2.2.2.2.2 p hp
  · rw [hb]; exact hLC.2 k hk
  · rw [o3 16 rfl]; exact hRC
def yrC (d : HD) (m : Nat) (wv : Nat → Nat × Nat) (z : YS) (w : Nat) : Int32 := match w with
  | 0 => z.2.2.2
  | 1 => z.2.2.1
  | 2 => sm (pwN d m wv z.1) (dNr d)
  | _ => msk (fun p => decide (z.1 (36 + p) ≠ -1)) (dNp d)
theorem r_X10_year {g : Gp} {S : Sx} {a b m : Nat} {d : HD} {wv : Nat → Nat × Nat} {f : Row} (hX : CX S 3 16 17 a b d m wv f) {x : Int32} {days w B : Nat} (hDB : DB B d f) (hB : B < 2 ^ 20) (h1 : 1 ≤ days) (h9 : days ≤ 96) (hw : w ≤ 3) : RE g mX10_year 8 [.ref 0, .int x, .int (nI days), .int (nI w)] S (some (.int (yrC d m wv (yA d m wv days (f, x, 0, 0)) w))) S := by
  refine RE_ofQ ⟨rfl, rfl⟩ (Nat.le_of_ble_eq_true rfl) (fun sz Q hQ => ?_)
  obtain ⟨hCL, hHL, hLL, hp2, hp3, hHC, hv, hW, hLC, hRC⟩ := id hX
  have n1 : dNs d ≤ 8 := hv.1
  have n2 : dNr d ≤ 10 := hv.2.1
  have n3 : dNp d ≤ 8 := hv.2.2.1
  obtain rfl | rfl | rfl | rfl : w = 0 ∨ w = 1 ∨ w = 2 ∨ w = 3 := by omega
  · refine J_aload_n (pc := 0) dX10_year_0 rfl ?_
    refine J_iload_n (pc := 1) dX10_year_1 rfl ?_
    refine J_iconst (pc := 2) (v := 1) dX10_year_2 (by decide) ?_
    refine J_bipush (pc := 3) (v := 96) dX10_year_3 (by decide) ?_
    refine J_csr (pc := 5) (N := mX10_isWithin) dX10_year_5 ml_X10_177 cf_X10_isWithin cs_X10_isWithin r_X10_isWithin rfl rfl (Nat.le_of_ble_eq_true rfl) (by decide) ?_
    refine J_ifp_eq (pc := 8) (tgt := 24) dX10_year_8 (by decide) (fun c8 => absurd (show 1 ≤ nI days ∧ nI days ≤ 96 from ⟨nI_le (a := 1) h1 (by omega), nI_le (b := 96) h9 (by decide)⟩) c8) (fun c8 => ?_)
    refine J_iload_n (pc := 11) dX10_year_11 rfl ?_
    refine J_iconst (pc := 12) (v := 0) dX10_year_12 (by decide) ?_
    refine J_iconst (pc := 13) (v := 3) dX10_year_13 (by decide) ?_
    refine J_csr (pc := 14) (N := mX10_isWithin) dX10_year_14 ml_X10_177 cf_X10_isWithin cs_X10_isWithin r_X10_isWithin rfl rfl (Nat.le_of_ble_eq_true rfl) (by decide) ?_
    refine J_ifp_eq (pc := 17) (tgt := 24) dX10_year_17 (by decide) (fun c17 => absurd (by decide) c17) (fun c17 => ?_)
    refine J_iconst (pc := 20) (v := 1) dX10_year_20 (by decide) ?_
    refine J_goto (pc := 21) (tgt := 25) dX10_year_21 (by decide) ?_
    refine J_cvv (pc := 25) (N := mX10_needArgument) dX10_year_25 ml_X10_181 cf_X10_needArgument cv_X10_needArgument r_X10_needArgument_ok rfl rfl (Nat.le_of_ble_eq_true rfl) (by decide) (rv_of (ci := 10) rfl rfl rfl) ?_
    refine J_aload_n (pc := 28) dX10_year_28 rfl ?_
    refine J_getr (pc := 29) dX10_year_29 kc10 fl_X10_63 rfl ?_
    refine J_aload_n (pc := 32) dX10_year_32 rfl ?_
    refine J_getr (pc := 33) dX10_year_33 kc10 fl_X10_27 rfl ?_
    refine J_iload_n (pc := 36) dX10_year_36 rfl ?_
    refine J_iload_n (pc := 37) dX10_year_37 rfl ?_
    refine J_cnU (pc := 38) (N := mX9_pass) dX10_year_38 ml_X10_331 cf_X9_pass cv_X9_pass (r_X9_pass hX hDB hB h9) rfl rfl (Nat.le_of_ble_eq_true rfl) (by decide) (rv_of (ci := 9) rfl rfl rfl) ?_
    intro X38 hX38
    refine J_iload_n (pc := 41) dX10_year_41 rfl ?_
    refine J_tableIn (pc := 42) (off := 26) (tgt := 68) dX10_year_42 (by decide) (by decide) (by decide) (by decide) ?_
    refine J_aload_n (pc := 68) dX10_year_68 rfl ?_
    refine J_getr (pc := 69) dX10_year_69 kc10 fl_X10_63 rfl ?_
    refine J_getiN (pc := 72) dX10_year_72 kc9 fl_X10_335 rfl ?_
    exact J_iret (pc := 75) rfl rfl rfl dX10_year_75 (by rw [hX38.2.2.2.2.2]; exact hQ _ hX38.1)
  · refine J_aload_n (pc := 0) dX10_year_0 rfl ?_
    refine J_iload_n (pc := 1) dX10_year_1 rfl ?_
    refine J_iconst (pc := 2) (v := 1) dX10_year_2 (by decide) ?_
    refine J_bipush (pc := 3) (v := 96) dX10_year_3 (by decide) ?_
    refine J_csr (pc := 5) (N := mX10_isWithin) dX10_year_5 ml_X10_177 cf_X10_isWithin cs_X10_isWithin r_X10_isWithin rfl rfl (Nat.le_of_ble_eq_true rfl) (by decide) ?_
    refine J_ifp_eq (pc := 8) (tgt := 24) dX10_year_8 (by decide) (fun c8 => absurd (show 1 ≤ nI days ∧ nI days ≤ 96 from ⟨nI_le (a := 1) h1 (by omega), nI_le (b := 96) h9 (by decide)⟩) c8) (fun c8 => ?_)
    refine J_iload_n (pc := 11) dX10_year_11 rfl ?_
    refine J_iconst (pc := 12) (v := 0) dX10_year_12 (by decide) ?_
    refine J_iconst (pc := 13) (v := 3) dX10_year_13 (by decide) ?_
    refine J_csr (pc := 14) (N := mX10_isWithin) dX10_year_14 ml_X10_177 cf_X10_isWithin cs_X10_isWithin r_X10_isWithin rfl rfl (Nat.le_of_ble_eq_true rfl) (by decide) ?_
    refine J_ifp_eq (pc := 17) (tgt := 24) dX10_year_17 (by decide) (fun c17 => absurd (by decide) c17) (fun c17 => ?_)
    refine J_iconst (pc := 20) (v := 1) dX10_year_20 (by decide) ?_
    refine J_goto (pc := 21) (tgt := 25) dX10_year_21 (by decide) ?_
    refine J_cvv (pc := 25) (N := mX10_needArgument) dX10_year_25 ml_X10_181 cf_X10_needArgument cv_X10_needArgument r_X10_needArgument_ok rfl rfl (Nat.le_of_ble_eq_true rfl) (by decide) (rv_of (ci := 10) rfl rfl rfl) ?_
    refine J_aload_n (pc := 28) dX10_year_28 rfl ?_
    refine J_getr (pc := 29) dX10_year_29 kc10 fl_X10_63 rfl ?_
    refine J_aload_n (pc := 32) dX10_year_32 rfl ?_
    refine J_getr (pc := 33) dX10_year_33 kc10 fl_X10_27 rfl ?_
    refine J_iload_n (pc := 36) dX10_year_36 rfl ?_
    refine J_iload_n (pc := 37) dX10_year_37 rfl ?_
    refine J_cnU (pc := 38) (N := mX9_pass) dX10_year_38 ml_X10_331 cf_X9_pass cv_X9_pass (r_X9_pass hX hDB hB h9) rfl rfl (Nat.le_of_ble_eq_true rfl) (by decide) (rv_of (ci := 9) rfl rfl rfl) ?_
    intro X38 hX38
    refine J_iload_n (pc := 41) dX10_year_41 rfl ?_
    refine J_tableIn (pc := 42) (off := 34) (tgt := 76) dX10_year_42 (by decide) (by decide) (by decide) (by decide) ?_
    refine J_aload_n (pc := 76) dX10_year_76 rfl ?_
    refine J_getr (pc := 77) dX10_year_77 kc10 fl_X10_63 rfl ?_
    refine J_getiN (pc := 80) dX10_year_80 kc9 fl_X10_338 rfl ?_
    exact J_iret (pc := 83) rfl rfl rfl dX10_year_83 (by rw [hX38.2.2.2.2.1]; exact hQ _ hX38.1)
  · refine J_aload_n (pc := 0) dX10_year_0 rfl ?_
    refine J_iload_n (pc := 1) dX10_year_1 rfl ?_
    refine J_iconst (pc := 2) (v := 1) dX10_year_2 (by decide) ?_
    refine J_bipush (pc := 3) (v := 96) dX10_year_3 (by decide) ?_
    refine J_csr (pc := 5) (N := mX10_isWithin) dX10_year_5 ml_X10_177 cf_X10_isWithin cs_X10_isWithin r_X10_isWithin rfl rfl (Nat.le_of_ble_eq_true rfl) (by decide) ?_
    refine J_ifp_eq (pc := 8) (tgt := 24) dX10_year_8 (by decide) (fun c8 => absurd (show 1 ≤ nI days ∧ nI days ≤ 96 from ⟨nI_le (a := 1) h1 (by omega), nI_le (b := 96) h9 (by decide)⟩) c8) (fun c8 => ?_)
    refine J_iload_n (pc := 11) dX10_year_11 rfl ?_
    refine J_iconst (pc := 12) (v := 0) dX10_year_12 (by decide) ?_
    refine J_iconst (pc := 13) (v := 3) dX10_year_13 (by decide) ?_
    refine J_csr (pc := 14) (N := mX10_isWithin) dX10_year_14 ml_X10_177 cf_X10_isWithin cs_X10_isWithin r_X10_isWithin rfl rfl (Nat.le_of_ble_eq_true rfl) (by decide) ?_
    refine J_ifp_eq (pc := 17) (tgt := 24) dX10_year_17 (by decide) (fun c17 => absurd (by decide) c17) (fun c17 => ?_)
    refine J_iconst (pc := 20) (v := 1) dX10_year_20 (by decide) ?_
    refine J_goto (pc := 21) (tgt := 25) dX10_year_21 (by decide) ?_
    refine J_cvv (pc := 25) (N := mX10_needArgument) dX10_year_25 ml_X10_181 cf_X10_needArgument cv_X10_needArgument r_X10_needArgument_ok rfl rfl (Nat.le_of_ble_eq_true rfl) (by decide) (rv_of (ci := 10) rfl rfl rfl) ?_
    refine J_aload_n (pc := 28) dX10_year_28 rfl ?_
    refine J_getr (pc := 29) dX10_year_29 kc10 fl_X10_63 rfl ?_
    refine J_aload_n (pc := 32) dX10_year_32 rfl ?_
    refine J_getr (pc := 33) dX10_year_33 kc10 fl_X10_27 rfl ?_
    refine J_iload_n (pc := 36) dX10_year_36 rfl ?_
    refine J_iload_n (pc := 37) dX10_year_37 rfl ?_
    refine J_cnU (pc := 38) (N := mX9_pass) dX10_year_38 ml_X10_331 cf_X9_pass cv_X9_pass (r_X9_pass hX hDB hB h9) rfl rfl (Nat.le_of_ble_eq_true rfl) (by decide) (rv_of (ci := 9) rfl rfl rfl) ?_
    intro X38 hX38
    refine J_iload_n (pc := 41) dX10_year_41 rfl ?_
    refine J_tableIn (pc := 42) (off := 42) (tgt := 84) dX10_year_42 (by decide) (by decide) (by decide) (by decide) ?_
    refine J_aload_n (pc := 84) dX10_year_84 rfl ?_
    refine J_getr (pc := 85) dX10_year_85 kc10 fl_X10_63 rfl ?_
    refine J_getrN (pc := 88) dX10_year_88 kc9 fl_X10_341 rfl ?_
    refine J_cg2 (S' := w1 X38 X38) rfl ?_
    refine J_cnw (pc := 91) (N := mX0_powerOfAll) dX10_year_91 ml_X10_191 cf_X0_powerOfAll cv_X0_powerOfAll (r_X0_powerOfAll hX38.2.1) rfl rfl (Nat.le_of_ble_eq_true rfl) (by decide) (rv_of (ci := 0) (by first | exact cvn_n (by assumption) | rfl) rfl rfl) ?_
    intro T
    exact J_iret (pc := 94) rfl rfl rfl dX10_year_94 (hQ _ (off3_w1 hX38.1))
  · refine J_aload_n (pc := 0) dX10_year_0 rfl ?_
    refine J_iload_n (pc := 1) dX10_year_1 rfl ?_
    refine J_iconst (pc := 2) (v := 1) dX10_year_2 (by decide) ?_
    refine J_bipush (pc := 3) (v := 96) dX10_year_3 (by decide) ?_
    refine J_csr (pc := 5) (N := mX10_isWithin) dX10_year_5 ml_X10_177 cf_X10_isWithin cs_X10_isWithin r_X10_isWithin rfl rfl (Nat.le_of_ble_eq_true rfl) (by decide) ?_
    refine J_ifp_eq (pc := 8) (tgt := 24) dX10_year_8 (by decide) (fun c8 => absurd (show 1 ≤ nI days ∧ nI days ≤ 96 from ⟨nI_le (a := 1) h1 (by omega), nI_le (b := 96) h9 (by decide)⟩) c8) (fun c8 => ?_)
    refine J_iload_n (pc := 11) dX10_year_11 rfl ?_
    refine J_iconst (pc := 12) (v := 0) dX10_year_12 (by decide) ?_
    refine J_iconst (pc := 13) (v := 3) dX10_year_13 (by decide) ?_
    refine J_csr (pc := 14) (N := mX10_isWithin) dX10_year_14 ml_X10_177 cf_X10_isWithin cs_X10_isWithin r_X10_isWithin rfl rfl (Nat.le_of_ble_eq_true rfl) (by decide) ?_
    refine J_ifp_eq (pc := 17) (tgt := 24) dX10_year_17 (by decide) (fun c17 => absurd (by decide) c17) (fun c17 => ?_)
    refine J_iconst (pc := 20) (v := 1) dX10_year_20 (by decide) ?_
    refine J_goto (pc := 21) (tgt := 25) dX10_year_21 (by decide) ?_
    refine J_cvv (pc := 25) (N := mX10_needArgument) dX10_year_25 ml_X10_181 cf_X10_needArgument cv_X10_needArgument r_X10_needArgument_ok rfl rfl (Nat.le_of_ble_eq_true rfl) (by decide) (rv_of (ci := 10) rfl rfl rfl) ?_
    refine J_aload_n (pc := 28) dX10_year_28 rfl ?_
    refine J_getr (pc := 29) dX10_year_29 kc10 fl_X10_63 rfl ?_
    refine J_aload_n (pc := 32) dX10_year_32 rfl ?_
    refine J_getr (pc := 33) dX10_year_33 kc10 fl_X10_27 rfl ?_
    refine J_iload_n (pc := 36) dX10_year_36 rfl ?_
    refine J_iload_n (pc := 37) dX10_year_37 rfl ?_
    refine J_cnU (pc := 38) (N := mX9_pass) dX10_year_38 ml_X10_331 cf_X9_pass cv_X9_pass (r_X9_pass hX hDB hB h9) rfl rfl (Nat.le_of_ble_eq_true rfl) (by decide) (rv_of (ci := 9) rfl rfl rfl) ?_
    intro X38 hX38
    refine J_iload_n (pc := 41) dX10_year_41 rfl ?_
    refine J_tableOut (pc := 42) (tgt := 95) dX10_year_42 (by decide) (by decide) ?_
    refine J_aload_n (pc := 95) dX10_year_95 rfl ?_
    refine J_getr (pc := 96) dX10_year_96 kc10 fl_X10_63 rfl ?_
    refine J_getrN (pc := 99) dX10_year_99 kc9 fl_X10_341 rfl ?_
    refine J_getrN (pc := 102) dX10_year_102 kc0 fl_X10_146 (by first | exact cvn_r0 (by assumption) | rfl) ?_
    refine J_iconst (pc := 105) (v := 3) dX10_year_105 (by decide) ?_
    refine J_il (pc := 106) dX10_year_106 (by first | exact cvn_e (by assumption) | rfl) (rfl : (3 : Int32) = nI 3) ⟨by first | decide | omega, by decide⟩ ?_
    exact J_iret (pc := 107) rfl rfl rfl dX10_year_107 (by rw [hX38.2.1.2.2.2.2.2.2.2.2.2.2.2.2.1]; exact hQ _ hX38.1)
def spC (d : HD) (m : Nat) (wv : Nat → Nat × Nat) (f : Row) (x : Int32) (days p : Nat) : Nat → Int32 × Int32 × Int32
  | 0 => (8, 0, 0)
  | k + 1 => ((if (yA d m wv days (f, x + ix k, 0, 0)).2.2.2 < (spC d m wv f x days p k).1 then (yA d m wv days (f, x + ix k, 0, 0)).2.2.2 else (spC d m wv f x days p k).1), (if (spC d m wv f x days p k).2.1 < (yA d m wv days (f, x + ix k, 0, 0)).2.2.2 then (yA d m wv days (f, x + ix k, 0, 0)).2.2.2 else (spC d m wv f x days p k).2.1), (if (yA d m wv days (f, x + ix k, 0, 0)).1 (36 + p) ≠ -1 then (spC d m wv f x days p k).2.2 + 1 else (spC d m wv f x days p k).2.2))
theorem r_X10_span {g : Gp} {S : Sx} {a b m : Nat} {d : HD} {wv : Nat → Nat × Nat} {f : Row} (hX : CX S 3 16 17 a b d m wv f) {x y : Int32} {many days p B : Nat} (hDB : DB B d f) (hB : B < 2 ^ 20) (q1 : 1 ≤ many) (q2 : many ≤ 20) (h1 : 1 ≤ days) (h9 : days ≤ 96) (hy : 0 ≤ y ∧ y ≤ 2) (hp : p < dNp d) : RE g mX10_span 8 [.ref 0, .int x, .int (nI many), .int (nI days), .int y, .int (nI p)] S (some (.int (if y = 0 then (spC d m wv f x days p many).1 else if y = 1 then (spC d m wv f x days p many).2.1 else (spC d m wv f x days p many).2.2))) S := by
  refine RE_ofQ ⟨rfl, rfl⟩ (Nat.le_of_ble_eq_true rfl) (fun sz Q hQ => ?_)
  obtain ⟨hCL, hHL, hLL, hp2, hp3, hHC, hv, hW, hLC, hRC⟩ := id hX
  have n1 : dNs d ≤ 8 := hv.1
  have n2 : dNr d ≤ 10 := hv.2.1
  have n3 : dNp d ≤ 8 := hv.2.2.1
  refine J_aload_n (pc := 0) dX10_span_0 rfl ?_
  refine J_iload_n (pc := 1) dX10_span_1 rfl ?_
  refine J_iconst (pc := 2) (v := 1) dX10_span_2 (by decide) ?_
  refine J_bipush (pc := 3) (v := 20) dX10_span_3 (by decide) ?_
  refine J_csr (pc := 5) (N := mX10_isWithin) dX10_span_5 ml_X10_177 cf_X10_isWithin cs_X10_isWithin r_X10_isWithin rfl rfl (Nat.le_of_ble_eq_true rfl) (by decide) ?_
  refine J_ifp_eq (pc := 8) (tgt := 50) dX10_span_8 (by decide) (fun c8 => absurd (show 1 ≤ nI many ∧ nI many ≤ 20 from ⟨nI_le (a := 1) q1 (by omega), nI_le (b := 20) q2 (by decide)⟩) c8) (fun c8 => ?_)
  refine J_iload_n (pc := 11) dX10_span_11 rfl ?_
  refine J_iconst (pc := 12) (v := 1) dX10_span_12 (by decide) ?_
  refine J_bipush (pc := 13) (v := 96) dX10_span_13 (by decide) ?_
  refine J_csr (pc := 15) (N := mX10_isWithin) dX10_span_15 ml_X10_177 cf_X10_isWithin cs_X10_isWithin r_X10_isWithin rfl rfl (Nat.le_of_ble_eq_true rfl) (by decide) ?_
  refine J_ifp_eq (pc := 18) (tgt := 50) dX10_span_18 (by decide) (fun c18 => absurd (show 1 ≤ nI days ∧ nI days ≤ 96 from ⟨nI_le (a := 1) h1 (by omega), nI_le (b := 96) h9 (by decide)⟩) c18) (fun c18 => ?_)
  refine J_iload (pc := 21) dX10_span_21 rfl ?_
  refine J_iconst (pc := 23) (v := 0) dX10_span_23 (by decide) ?_
  refine J_iconst (pc := 24) (v := 2) dX10_span_24 (by decide) ?_
  refine J_csr (pc := 25) (N := mX10_isWithin) dX10_span_25 ml_X10_177 cf_X10_isWithin cs_X10_isWithin r_X10_isWithin rfl rfl (Nat.le_of_ble_eq_true rfl) (by decide) ?_
  refine J_ifp_eq (pc := 28) (tgt := 50) dX10_span_28 (by decide) (fun c28 => absurd hy c28) (fun c28 => ?_)
  refine J_aload_n (pc := 31) dX10_span_31 rfl ?_
  refine J_getr (pc := 32) dX10_span_32 kc10 fl_X10_27 rfl ?_
  refine J_getpN (pc := 35) dX10_span_35 kc0 fl_X10_54 (by first | exact cvn_p2 (by assumption) | rfl) ?_
  refine J_tr hp2 ?_
  refine J_iload (pc := 38) dX10_span_38 rfl ?_
  refine J_cnr (pc := 40) (N := mX1_hasPilgrim) dX10_span_40 ml_X10_236 cf_X1_hasPilgrim cv_X1_hasPilgrim (r_X1_hasPilgrim hHL hHC hv) rfl rfl (Nat.le_of_ble_eq_true rfl) (by decide) (rv_of (ci := 1) (by first | exact hou_n (by assumption) | rfl) rfl rfl) ?_
  refine J_ifp_eq (pc := 43) (tgt := 50) dX10_span_43 (by decide) (fun c43 => absurd (in_nI hp (by omega)) c43) (fun c43 => ?_)
  refine J_iconst (pc := 46) (v := 1) dX10_span_46 (by decide) ?_
  refine J_goto (pc := 47) (tgt := 51) dX10_span_47 (by decide) ?_
  refine J_cvv (pc := 51) (N := mX10_needArgument) dX10_span_51 ml_X10_181 cf_X10_needArgument cv_X10_needArgument r_X10_needArgument_ok rfl rfl (Nat.le_of_ble_eq_true rfl) (by decide) (rv_of (ci := 10) rfl rfl rfl) ?_
  refine J_bipush (pc := 54) (v := 8) dX10_span_54 (by decide) ?_
  refine J_istore (pc := 56) dX10_span_56 (by decide) rfl ?_
  refine J_iconst (pc := 58) (v := 0) dX10_span_58 (by decide) ?_
  refine J_istore (pc := 59) dX10_span_59 (by decide) rfl ?_
  refine J_iconst (pc := 61) (v := 0) dX10_span_61 (by decide) ?_
  refine J_istore (pc := 62) dX10_span_62 (by decide) rfl ?_
  refine J_iconst (pc := 64) (v := 0) dX10_span_64 (by decide) ?_
  refine J_istore (pc := 65) dX10_span_65 (by decide) rfl ?_
  refine dn_ind (n := many) (P := fun i => ∀ X, off3 S X → J g mX10_span 8 [] 67 [some (.ref 0), some (.int x), some (.int (nI many)), some (.int (nI days)), some (.int y), some (.int (nI p)), some (.int (spC d m wv f x days p i).1), some (.int (spC d m wv f x days p i).2.1), some (.int (spC d m wv f x days p i).2.2), some (.int (ix i))] [] (hs X) sz 0 0 Q) ?_ (fun i hi ih => ?_) 0 (Nat.zero_le _) S (off3_r S)
  · intro X hoff
    refine J_iload (pc := 67) dX10_span_67 rfl ?_
    refine J_iload_n (pc := 69) dX10_span_69 rfl ?_
    refine J_icmp_ge (pc := 70) (tgt := 141) dX10_span_70 (by decide) (fun c70 => ?_) (fun c70 => absurd (ix_ge rfl) c70)
    by_cases h0 : y = 0
    · subst h0
      refine J_iload (pc := 141) dX10_span_141 rfl ?_
      refine J_lookup (pc := 143) (off := 25) (tgt := 168) dX10_span_143 (by decide) (by decide) (by decide) ?_
      refine J_iload (pc := 168) dX10_span_168 rfl ?_
      exact J_iret (pc := 170) rfl rfl rfl dX10_span_170 (hQ _ hoff)
    by_cases h1 : y = 1
    · subst h1
      refine J_iload (pc := 141) dX10_span_141 rfl ?_
      refine J_lookup (pc := 143) (off := 28) (tgt := 171) dX10_span_143 (by decide) (by decide) (by decide) ?_
      refine J_iload (pc := 171) dX10_span_171 rfl ?_
      exact J_iret (pc := 173) rfl rfl rfl dX10_span_173 (hQ _ hoff)
    rw [if_neg h0, if_neg h1] at hQ
    refine J_iload (pc := 141) dX10_span_141 rfl ?_
    refine J_lookup (pc := 143) (off := 31) (tgt := 174) dX10_span_143 (by decide) (lk01 h0 h1) (by decide) ?_
    refine J_iload (pc := 174) dX10_span_174 rfl ?_
    exact J_iret (pc := 176) rfl rfl rfl dX10_span_176 (hQ _ hoff)
  · intro X hoff
    refine J_iload (pc := 67) dX10_span_67 rfl ?_
    refine J_iload_n (pc := 69) dX10_span_69 rfl ?_
    refine J_icmp_ge (pc := 70) (tgt := 141) dX10_span_70 (by decide) (fun c70 => absurd c70 (ix_lt rfl hi (by omega))) (fun c70 => ?_)
    refine J_aload_n (pc := 73) dX10_span_73 rfl ?_
    refine J_getr (pc := 74) dX10_span_74 kc10 fl_X10_63 rfl ?_
    refine J_aload_n (pc := 77) dX10_span_77 rfl ?_
    refine J_getr (pc := 78) dX10_span_78 kc10 fl_X10_27 rfl ?_
    refine J_iload_n (pc := 81) dX10_span_81 rfl ?_
    refine J_iload (pc := 82) dX10_span_82 rfl ?_
    refine J_iadd (pc := 84) dX10_span_84 ?_
    refine J_iload_n (pc := 85) dX10_span_85 rfl ?_
    refine J_cnU (pc := 86) (N := mX9_pass) dX10_span_86 ml_X10_331 cf_X9_pass cv_X9_pass (r_X9_pass (CX_off hX hoff) hDB hB h9) rfl rfl (Nat.le_of_ble_eq_true rfl) (by decide) (rv_of (ci := 9) rfl rfl rfl) ?_
    intro X86 hX86
    obtain ⟨hf2, hX2, hDB2, y1, y3, y2⟩ := hX86
    refine J_iload (pc := 89) dX10_span_89 rfl ?_
    refine J_aload_n (pc := 91) dX10_span_91 rfl ?_
    refine J_getr (pc := 92) dX10_span_92 kc10 fl_X10_63 rfl ?_
    refine J_getiN (pc := 95) dX10_span_95 kc9 fl_X10_335 rfl ?_
    rw [y2]
    refine J_mmin (pc := 98) dX10_span_98 ml_X10_323 (Nat.le_of_ble_eq_true rfl) ?_
    refine J_istore (pc := 101) dX10_span_101 (by decide) rfl ?_
    refine J_iload (pc := 103) dX10_span_103 rfl ?_
    refine J_aload_n (pc := 105) dX10_span_105 rfl ?_
    refine J_getr (pc := 106) dX10_span_106 kc10 fl_X10_63 rfl ?_
    refine J_getiN (pc := 109) dX10_span_109 kc9 fl_X10_335 rfl ?_
    rw [y2]
    refine J_mmax (pc := 112) dX10_span_112 ml_X10_344 (Nat.le_of_ble_eq_true rfl) ?_
    refine J_istore (pc := 115) dX10_span_115 (by decide) rfl ?_
    refine J_aload_n (pc := 117) dX10_span_117 rfl ?_
    refine J_getr (pc := 118) dX10_span_118 kc10 fl_X10_63 rfl ?_
    refine J_getrN (pc := 121) dX10_span_121 kc9 fl_X10_341 rfl ?_
    refine J_iload (pc := 124) dX10_span_124 rfl ?_
    refine J_cnr (pc := 126) (N := mX0_isCured) dX10_span_126 ml_X10_256 cf_X0_isCured cv_X0_isCured (r_X0_isCured hX2 hp) rfl rfl (Nat.le_of_ble_eq_true rfl) (by decide) (rv_of (ci := 0) (by first | exact cvn_n (by assumption) | rfl) rfl rfl) ?_
    refine J_ifp_eq (pc := 129) (tgt := 135) dX10_span_129 (by decide) (fun c129 => ?_) (fun c129 => ?_)
    · refine J_iinc (pc := 135) (v := 1) dX10_span_135 rfl (by decide) rfl ?_
      refine J_goto (pc := 138) (tgt := 67) dX10_span_138 (by decide) ?_
      have e : spC d m wv f x days p (i + 1) = _ := rfl
      first
        | (have e3 : (spC d m wv f x days p (i + 1)).2.2 = (spC d m wv f x days p i).2.2 + 1 := if_pos c129
           have := ih X86 (off3_t hoff hf2)
           rw [e3] at this
           exact this)
        | (have e3 : (spC d m wv f x days p (i + 1)).2.2 = (spC d m wv f x days p i).2.2 := if_neg c129
           have := ih X86 (off3_t hoff hf2)
           rw [e3] at this
           exact this)
    · refine J_iinc (pc := 132) (v := 1) dX10_span_132 rfl (by decide) rfl ?_
      refine J_iinc (pc := 135) (v := 1) dX10_span_135 rfl (by decide) rfl ?_
      refine J_goto (pc := 138) (tgt := 67) dX10_span_138 (by decide) ?_
      have e : spC d m wv f x days p (i + 1) = _ := rfl
      first
        | (have e3 : (spC d m wv f x days p (i + 1)).2.2 = (spC d m wv f x days p i).2.2 + 1 := if_pos c129
           have := ih X86 (off3_t hoff hf2)
           rw [e3] at this
           exact this)
        | (have e3 : (spC d m wv f x days p (i + 1)).2.2 = (spC d m wv f x days p i).2.2 := if_neg c129
           have := ih X86 (off3_t hoff hf2)
           rw [e3] at this
           exact this)
theorem r_X5_isFull {g : Gp} {S : Sx} {a mx : Nat} (hSh : ShL a mx) (h0 : sf S a 0 = nI mx) : RT g mX5_isFull 0 [.ref a] S (some (.int (bI (decide (nI mx ≤ sf S a 3))))) S := by
  refine RT_ofQ ⟨rfl, rfl⟩ (Nat.le_of_ble_eq_true rfl) (fun sz Q hQ => ?_)
  refine J_aload_n (pc := 0) dX5_isFull_0 rfl ?_
  refine J_geti (pc := 1) dX5_isFull_1 kc5 fl_X5_20 (by first | exact shf_i3 (by assumption) | rfl) ?_
  refine J_aload_n (pc := 4) dX5_isFull_4 rfl ?_
  refine J_geti (pc := 5) dX5_isFull_5 kc5 fl_X5_7 (by first | exact shf_i0 (by assumption) | rfl) ?_
  refine J_t1 h0 ?_
  refine J_icmp_lt (pc := 8) (tgt := 15) dX5_isFull_8 (by decide) (fun c8 => ?_) (fun c8 => ?_)
  · refine J_iconst (pc := 15) (v := 0) dX5_isFull_15 (by decide) ?_
    exact J_iret (pc := 16) rfl rfl rfl dX5_isFull_16 (rq hQ (by first | exact Eq.symm (bI_f (Int32.not_le.mpr c8)) | exact Eq.symm (bI_t (Int32.not_lt.mp c8))) rfl)
  · refine J_iconst (pc := 11) (v := 1) dX5_isFull_11 (by decide) ?_
    refine J_goto (pc := 12) (tgt := 16) dX5_isFull_12 (by decide) ?_
    exact J_iret (pc := 16) rfl rfl rfl dX5_isFull_16 (rq hQ (by first | exact Eq.symm (bI_f (Int32.not_le.mpr c8)) | exact Eq.symm (bI_t (Int32.not_lt.mp c8))) rfl)
theorem shl_b {a mx : Nat} (h : ShL a mx) : mx ≤ 16 ∧ a + 1 ≠ 16 ∧ (a + 1) ≠ a := by rcases h with ⟨rfl, rfl⟩ | ⟨rfl, rfl⟩ | ⟨rfl, rfl⟩ | ⟨rfl, rfl⟩ | ⟨rfl, rfl⟩ <;> decide
theorem r_X5_push {g : Gp} {S : Sx} {a mx h : Nat} (hSh : ShL a mx) (h0 : sf S a 0 = nI mx) (h1 : sf S a 1 = 31) (h3 : sf S a 3 = nI h) (hh : h < mx) : RT g mX5_push 0 [.ref a, .ref 16] S none (sF (sAA S (a + 1) (va_cpy (sa S 16) (sa S (a + 1)) 0 (h * 31) 31)) a 3 (nI (h + 1))) := by
  refine RT_ofQ ⟨rfl, rfl⟩ (Nat.le_of_ble_eq_true rfl) (fun sz Q hQ => ?_)
  obtain ⟨mb, ne1, -⟩ := shl_b hSh
  refine J_aload_n (pc := 0) dX5_push_0 rfl ?_
  refine J_geti (pc := 1) dX5_push_1 kc5 fl_X5_20 (by first | exact shf_i3 (by assumption) | rfl) ?_
  rw [h3]
  refine J_aload_n (pc := 4) dX5_push_4 rfl ?_
  refine J_geti (pc := 5) dX5_push_5 kc5 fl_X5_7 (by first | exact shf_i0 (by assumption) | rfl) ?_
  rw [h0]
  refine J_icmp_ge (pc := 8) (tgt := 52) dX5_push_8 (by decide) (fun c8 => absurd c8 (nI_ge hh (by omega))) (fun c8 => ?_)
  refine J_aload_n (pc := 11) dX5_push_11 rfl ?_
  refine J_al (pc := 12) dX5_push_12 (cvn_e (Or.inl ⟨rfl, rfl, rfl⟩)) (by decide) rfl ?_
  refine J_aload_n (pc := 13) dX5_push_13 rfl ?_
  refine J_geti (pc := 14) dX5_push_14 kc5 fl_X5_13 (by first | exact shf_i1 (by assumption) | rfl) ?_
  rw [h1]
  refine J_icmp_ne (pc := 17) (tgt := 52) dX5_push_17 (by decide) (fun c17 => absurd rfl c17) (fun c17 => ?_)
  refine J_aload_n (pc := 20) dX5_push_20 rfl ?_
  refine J_iconst (pc := 21) (v := 0) dX5_push_21 (by decide) ?_
  refine J_aload_n (pc := 22) dX5_push_22 rfl ?_
  refine J_getr (pc := 23) dX5_push_23 kc5 fl_X5_16 (by first | exact shf_r2 (by assumption) | rfl) ?_
  refine J_aload_n (pc := 26) dX5_push_26 rfl ?_
  refine J_geti (pc := 27) dX5_push_27 kc5 fl_X5_20 (by first | exact shf_i3 (by assumption) | rfl) ?_
  rw [h3]
  refine J_aload_n (pc := 30) dX5_push_30 rfl ?_
  refine J_geti (pc := 31) dX5_push_31 kc5 fl_X5_13 (by first | exact shf_i1 (by assumption) | rfl) ?_
  rw [h1]
  refine J_imul (pc := 34) dX5_push_34 ?_
  refine J_aload_n (pc := 35) dX5_push_35 rfl ?_
  refine J_geti (pc := 36) dX5_push_36 kc5 fl_X5_13 (by first | exact shf_i1 (by assumption) | rfl) ?_
  rw [h1]
  refine J_acp (pc := 39) (i0 := 0) (i1 := h * 31) (n := 31) dX5_push_39 ml_acp5 rfl (shf_a2 hSh) (rfl : (0 : Int32) = nI 0) (pk_mul h 31) (rfl : (31 : Int32) = nI 31) ⟨by decide, by decide⟩ ⟨by have : (h + 1) * 31 ≤ mx * 31 := Nat.mul_le_mul_right _ hh; omega, by have : mx * 31 ≤ 16 * 31 := Nat.mul_le_mul_right _ mb; omega⟩ (Nat.le_of_ble_eq_true rfl) ?_
  refine J_aload_n (pc := 42) dX5_push_42 rfl ?_
  refine J_dup (pc := 43) dX5_push_43 rfl ?_
  refine J_geti (pc := 44) dX5_push_44 kc5 fl_X5_20 (by first | exact shf_i3 (by assumption) | rfl) ?_
  refine J_t1 h3 ?_
  refine J_iconst (pc := 47) (v := 1) dX5_push_47 (by decide) ?_
  refine J_iadd (pc := 48) dX5_push_48 ?_
  rw [nI_1]
  refine J_puti (pc := 49) dX5_push_49 kc5 fl_X5_20 (by first | exact shf_i3 (by assumption) | rfl) ⟨rfl, rfl⟩ ?_
  exact J_ret (pc := 52) rfl rfl dX5_push_52 (rqv hQ rfl)
theorem r_X5_pop {g : Gp} {S : Sx} {a mx h : Nat} (hSh : ShL a mx) (h0 : sf S a 0 = nI mx) (h1 : sf S a 1 = 31) (h3 : sf S a 3 = nI (h + 1)) (hh : h < mx) : RT g mX5_pop 0 [.ref a, .ref 16] S none (sAA (sF S a 3 (nI h)) 16 (va_cpy (sa S (a + 1)) (sa S 16) (h * 31) 0 31)) := by
  refine RT_ofQ ⟨rfl, rfl⟩ (Nat.le_of_ble_eq_true rfl) (fun sz Q hQ => ?_)
  obtain ⟨mb, ne1, -⟩ := shl_b hSh
  refine J_aload_n (pc := 0) dX5_pop_0 rfl ?_
  refine J_geti (pc := 1) dX5_pop_1 kc5 fl_X5_20 (by first | exact shf_i3 (by assumption) | rfl) ?_
  rw [h3]
  refine J_if_le (pc := 4) (tgt := 48) dX5_pop_4 (by decide) (fun c4 => absurd c4 (nI_nle (by omega) (by omega))) (fun c4 => ?_)
  refine J_aload_n (pc := 7) dX5_pop_7 rfl ?_
  refine J_al (pc := 8) dX5_pop_8 (cvn_e (Or.inl ⟨rfl, rfl, rfl⟩)) (by decide) rfl ?_
  refine J_aload_n (pc := 9) dX5_pop_9 rfl ?_
  refine J_geti (pc := 10) dX5_pop_10 kc5 fl_X5_13 (by first | exact shf_i1 (by assumption) | rfl) ?_
  rw [h1]
  refine J_icmp_ne (pc := 13) (tgt := 48) dX5_pop_13 (by decide) (fun c13 => absurd rfl c13) (fun c13 => ?_)
  refine J_aload_n (pc := 16) dX5_pop_16 rfl ?_
  refine J_dup (pc := 17) dX5_pop_17 rfl ?_
  refine J_geti (pc := 18) dX5_pop_18 kc5 fl_X5_20 (by first | exact shf_i3 (by assumption) | rfl) ?_
  rw [h3]
  refine J_iconst (pc := 21) (v := 1) dX5_pop_21 (by decide) ?_
  refine J_isub (pc := 22) dX5_pop_22 ?_
  rw [nI_pred]
  refine J_puti (pc := 23) dX5_pop_23 kc5 fl_X5_20 (by first | exact shf_i3 (by assumption) | rfl) ⟨rfl, rfl⟩ ?_
  refine J_aload_n (pc := 26) dX5_pop_26 rfl ?_
  refine J_getr (pc := 27) dX5_pop_27 kc5 fl_X5_16 (by first | exact shf_r2 (by assumption) | rfl) ?_
  refine J_aload_n (pc := 30) dX5_pop_30 rfl ?_
  refine J_geti (pc := 31) dX5_pop_31 kc5 fl_X5_20 (by first | exact shf_i3 (by assumption) | rfl) ?_
  refine J_t1 sF_s ?_
  refine J_aload_n (pc := 34) dX5_pop_34 rfl ?_
  refine J_geti (pc := 35) dX5_pop_35 kc5 fl_X5_13 (by first | exact shf_i1 (by assumption) | rfl) ?_
  refine J_t1 (y := 31) (by show up2 (sf S) a 3 (nI h) a 1 = 31; simp [up2]; exact h1) ?_
  refine J_imul (pc := 38) dX5_pop_38 ?_
  refine J_aload_n (pc := 39) dX5_pop_39 rfl ?_
  refine J_iconst (pc := 40) (v := 0) dX5_pop_40 (by decide) ?_
  refine J_aload_n (pc := 41) dX5_pop_41 rfl ?_
  refine J_geti (pc := 42) dX5_pop_42 kc5 fl_X5_13 (by first | exact shf_i1 (by assumption) | rfl) ?_
  refine J_t1 (y := 31) (by show up2 (sf S) a 3 (nI h) a 1 = 31; simp [up2]; exact h1) ?_
  refine J_acp (pc := 45) (i0 := h * 31) (i1 := 0) (n := 31) dX5_pop_45 ml_acp5 (shf_a2 hSh) rfl (pk_mul h 31) (rfl : (0 : Int32) = nI 0) (rfl : (31 : Int32) = nI 31) ⟨by have : (h + 1) * 31 ≤ mx * 31 := Nat.mul_le_mul_right _ hh; omega, by have : mx * 31 ≤ 16 * 31 := Nat.mul_le_mul_right _ mb; omega⟩ ⟨by decide, by decide⟩ (Nat.le_of_ble_eq_true rfl) ?_
  exact J_ret (pc := 48) rfl rfl dX5_pop_48 (rqv hQ rfl)
theorem r_X5_copyOf {g : Gp} {S : Sx} {a q mx my h : Nat} (hSh : ShL a mx) (hSq : ShL q my) (h0 : sf S a 0 = nI mx) (h1 : sf S a 1 = 31) (k1 : sf S q 1 = 31) (k3 : sf S q 3 = nI h) (hh : h ≤ mx) (hh2 : h ≤ my) (hne : a ≠ q) : RT g mX5_copyOf 0 [.ref a, .ref q] S none (sF (sAA S (a + 1) (va_cpy (sa S (q + 1)) (sa S (a + 1)) 0 0 (h * 31))) a 3 (nI h)) := by
  refine RT_ofQ ⟨rfl, rfl⟩ (Nat.le_of_ble_eq_true rfl) (fun sz Q hQ => ?_)
  obtain ⟨mb, ne1, -⟩ := shl_b hSh
  obtain ⟨mb2, ne2, -⟩ := shl_b hSq
  refine J_aload_n (pc := 0) dX5_copyOf_0 rfl ?_
  refine J_geti (pc := 1) dX5_copyOf_1 kc5 fl_X5_13 (by first | exact shf_i1 (by assumption) | rfl) ?_
  rw [k1]
  refine J_aload_n (pc := 4) dX5_copyOf_4 rfl ?_
  refine J_geti (pc := 5) dX5_copyOf_5 kc5 fl_X5_13 (by first | exact shf_i1 (by assumption) | rfl) ?_
  rw [h1]
  refine J_icmp_ne (pc := 8) (tgt := 52) dX5_copyOf_8 (by decide) (fun c8 => absurd rfl c8) (fun c8 => ?_)
  refine J_aload_n (pc := 11) dX5_copyOf_11 rfl ?_
  refine J_geti (pc := 12) dX5_copyOf_12 kc5 fl_X5_20 (by first | exact shf_i3 (by assumption) | rfl) ?_
  rw [k3]
  refine J_aload_n (pc := 15) dX5_copyOf_15 rfl ?_
  refine J_geti (pc := 16) dX5_copyOf_16 kc5 fl_X5_7 (by first | exact shf_i0 (by assumption) | rfl) ?_
  rw [h0]
  refine J_icmp_gt (pc := 19) (tgt := 52) dX5_copyOf_19 (by decide) (fun c19 => absurd c19 (Int32.not_lt.mpr (nI_le hh (by omega)))) (fun c19 => ?_)
  refine J_aload_n (pc := 22) dX5_copyOf_22 rfl ?_
  refine J_getr (pc := 23) dX5_copyOf_23 kc5 fl_X5_16 (by first | exact shf_r2 (by assumption) | rfl) ?_
  refine J_iconst (pc := 26) (v := 0) dX5_copyOf_26 (by decide) ?_
  refine J_aload_n (pc := 27) dX5_copyOf_27 rfl ?_
  refine J_getr (pc := 28) dX5_copyOf_28 kc5 fl_X5_16 (by first | exact shf_r2 (by assumption) | rfl) ?_
  refine J_iconst (pc := 31) (v := 0) dX5_copyOf_31 (by decide) ?_
  refine J_aload_n (pc := 32) dX5_copyOf_32 rfl ?_
  refine J_geti (pc := 33) dX5_copyOf_33 kc5 fl_X5_20 (by first | exact shf_i3 (by assumption) | rfl) ?_
  rw [k3]
  refine J_aload_n (pc := 36) dX5_copyOf_36 rfl ?_
  refine J_geti (pc := 37) dX5_copyOf_37 kc5 fl_X5_13 (by first | exact shf_i1 (by assumption) | rfl) ?_
  rw [h1]
  refine J_imul (pc := 40) dX5_copyOf_40 ?_
  refine J_acp (pc := 41) (i0 := 0) (i1 := 0) (n := h * 31) dX5_copyOf_41 ml_acp5 (shf_a2 hSq) (shf_a2 hSh) (rfl : (0 : Int32) = nI 0) (rfl : (0 : Int32) = nI 0) (pk_mul h 31) ⟨by have : h * 31 ≤ my * 31 := Nat.mul_le_mul_right _ hh2; omega, by have : my * 31 ≤ 16 * 31 := Nat.mul_le_mul_right _ mb2; omega⟩ ⟨by have : h * 31 ≤ mx * 31 := Nat.mul_le_mul_right _ hh; omega, by have : mx * 31 ≤ 16 * 31 := Nat.mul_le_mul_right _ mb; omega⟩ (Nat.le_of_ble_eq_true rfl) ?_
  refine J_aload_n (pc := 44) dX5_copyOf_44 rfl ?_
  refine J_aload_n (pc := 45) dX5_copyOf_45 rfl ?_
  refine J_geti (pc := 46) dX5_copyOf_46 kc5 fl_X5_20 (by first | exact shf_i3 (by assumption) | rfl) ?_
  refine J_t1 k3 ?_
  refine J_puti (pc := 49) dX5_copyOf_49 kc5 fl_X5_20 (by first | exact shf_i3 (by assumption) | rfl) ⟨rfl, rfl⟩ ?_
  exact J_ret (pc := 52) rfl rfl dX5_copyOf_52 (rqv hQ rfl)
theorem sh32 : ShL 32 16 := Or.inl ⟨rfl, rfl⟩
theorem sh34 : ShL 34 3 := Or.inr (Or.inl ⟨rfl, rfl⟩)
theorem sh5 {k : Nat} (h : k < 3) : ShL (53 + 2 * k) 16 := by
  obtain rfl | rfl | rfl : k = 0 ∨ k = 1 ∨ k = 2 := by omega
  · exact Or.inr (Or.inr (Or.inl ⟨rfl, rfl⟩))
  · exact Or.inr (Or.inr (Or.inr (Or.inl ⟨rfl, rfl⟩)))
  · exact Or.inr (Or.inr (Or.inr (Or.inr ⟨rfl, rfl⟩)))
theorem r_X10_undo_no {g : Gp} {S : Sx} (h3 : sf S 32 3 = 0) : RT g mX10_undo 0 [.ref 0] S (some (.int (-1))) S := by
  refine RT_ofQ ⟨rfl, rfl⟩ (Nat.le_of_ble_eq_true rfl) (fun sz Q hQ => ?_)
  refine J_aload_n (pc := 0) dX10_undo_0 rfl ?_
  refine J_getr (pc := 1) dX10_undo_1 kc10 fl_X10_72 rfl ?_
  refine J_getiN (pc := 4) dX10_undo_4 kc5 fl_X10_130 (by first | exact shf_i3 (by assumption) | rfl) ?_
  refine J_if_ne (pc := 7) (tgt := 12) dX10_undo_7 (by decide) (fun c7 => absurd h3 c7) (fun c7 => ?_)
  refine J_iconst (pc := 10) (v := -1) dX10_undo_10 (by decide) ?_
  exact J_iret (pc := 11) rfl rfl rfl dX10_undo_11 (rq hQ rfl rfl)
theorem r_X10_undo {g : Gp} {S : Sx} {h : Nat} (h0 : sf S 32 0 = nI 16) (h1 : sf S 32 1 = 31) (h3 : sf S 32 3 = nI (h + 1)) (hh : h < 16) : RT g mX10_undo 1 [.ref 0] S (some (.int (nI h))) (sF (sAA (sF S 32 3 (nI h)) 16 (va_cpy (sa S 33) (sa S 16) (h * 31) 0 31)) 0 13 0) := by
  refine RT_ofQ ⟨rfl, rfl⟩ (Nat.le_of_ble_eq_true rfl) (fun sz Q hQ => ?_)
  refine J_aload_n (pc := 0) dX10_undo_0 rfl ?_
  refine J_getr (pc := 1) dX10_undo_1 kc10 fl_X10_72 rfl ?_
  refine J_getiN (pc := 4) dX10_undo_4 kc5 fl_X10_130 (by first | exact shf_i3 (by assumption) | rfl) ?_
  rw [h3]
  refine J_if_ne (pc := 7) (tgt := 12) dX10_undo_7 (by decide) (fun c7 => ?_) (fun c7 => absurd c7 (nI_ne0 (by omega) (by omega)))
  refine J_aload_n (pc := 12) dX10_undo_12 rfl ?_
  refine J_getr (pc := 13) dX10_undo_13 kc10 fl_X10_72 rfl ?_
  refine J_aload_n (pc := 16) dX10_undo_16 rfl ?_
  refine J_getr (pc := 17) dX10_undo_17 kc10 fl_X10_27 rfl ?_
  refine J_getrN (pc := 20) dX10_undo_20 kc0 fl_X10_146 (by first | exact cvn_r0 (by assumption) | rfl) ?_
  refine J_cnv (pc := 23) (N := mX5_pop) dX10_undo_23 ml_X10_174 cf_X5_pop cv_X5_pop (r_X5_pop sh32 h0 h1 h3 hh) rfl rfl (Nat.le_of_ble_eq_true rfl) (by decide) (rv_of (ci := 5) (by first | exact shf_n (by assumption) | rfl) rfl rfl) ?_
  refine J_aload_n (pc := 26) dX10_undo_26 rfl ?_
  refine J_iconst (pc := 27) (v := 0) dX10_undo_27 (by decide) ?_
  refine J_puti (pc := 28) dX10_undo_28 kc10 fl_X10_133 rfl ⟨rfl, rfl⟩ ?_
  refine J_aload_n (pc := 31) dX10_undo_31 rfl ?_
  refine J_getr (pc := 32) dX10_undo_32 kc10 fl_X10_72 rfl ?_
  refine J_getiN (pc := 35) dX10_undo_35 kc5 fl_X10_130 (by first | exact shf_i3 (by assumption) | rfl) ?_
  exact J_iret (pc := 38) rfl rfl rfl dX10_undo_38 (rq hQ rfl rfl)
theorem r_X10_image_no {g : Gp} {S : Sx} (h0 : sf S 34 0 = nI 3) (h3 : sf S 34 3 = 3) : RT g mX10_image 1 [.ref 0] S (some (.int (-1))) S := by
  refine RT_ofQ ⟨rfl, rfl⟩ (Nat.le_of_ble_eq_true rfl) (fun sz Q hQ => ?_)
  refine J_aload_n (pc := 0) dX10_image_0 rfl ?_
  refine J_getr (pc := 1) dX10_image_1 kc10 fl_X10_76 rfl ?_
  refine J_cnr (pc := 4) (N := mX5_isFull) dX10_image_4 ml_X10_140 cf_X5_isFull cv_X5_isFull (r_X5_isFull sh34 h0) rfl rfl (Nat.le_of_ble_eq_true rfl) (by decide) (rv_of (ci := 5) (by first | exact shf_n (by assumption) | rfl) rfl rfl) ?_
  refine J_ifp_eq (pc := 7) (tgt := 12) dX10_image_7 (by decide) (fun c7 => absurd (by rw [h3]; decide) c7) (fun c7 => ?_)
  refine J_iconst (pc := 10) (v := -1) dX10_image_10 (by decide) ?_
  exact J_iret (pc := 11) rfl rfl rfl dX10_image_11 (rq hQ rfl rfl)
def imC (S : Sx) (q w : Nat) : Sx := sF (sAA (sF (sAA S (53 + 2 * q + 1) (va_cpy (sa S 33) (sa S (53 + 2 * q + 1)) 0 0 (w * 31))) (53 + 2 * q) 3 (nI w)) 35 (va_cpy (sa S 16) (sa S 35) 0 (q * 31) 31)) 34 3 (nI (q + 1))
def reC (S : Sx) (q w : Nat) : Sx := sF (sF (sAA (sAA (sF S 34 3 (nI q)) 16 (va_cpy (sa S 35) (sa S 16) (q * 31) 0 31)) 33 (va_cpy (sa S (53 + 2 * q + 1)) (sa S 33) 0 0 (w * 31))) 32 3 (nI w)) 0 13 0
theorem r_X10_image {g : Gp} {S : Sx} {q w : Nat} (h0 : sf S 34 0 = nI 3) (h1 : sf S 34 1 = 31) (k0 : sf S 32 0 = nI 16) (k1 : sf S 32 1 = 31) (l0 : sf S (53 + 2 * q) 0 = nI 16) (l1 : sf S (53 + 2 * q) 1 = 31) (h3 : sf S 34 3 = nI q) (hq : q < 3) (k3 : sf S 32 3 = nI w) (hw : w ≤ 16) : RT g mX10_image 1 [.ref 0] S (some (.int (nI (q + 1)))) (imC S q w) := by
  refine RT_ofQ ⟨rfl, rfl⟩ (Nat.le_of_ble_eq_true rfl) (fun sz Q hQ => ?_)
  have hq5 := sh5 hq
  obtain ⟨z1, z2, z3, z4⟩ : 53 + 2 * q ≠ 34 ∧ 53 + 2 * q + 1 ≠ 35 ∧ 53 + 2 * q ≠ 32 ∧ 53 + 2 * q + 1 ≠ 16 := by omega
  refine J_aload_n (pc := 0) dX10_image_0 rfl ?_
  refine J_getr (pc := 1) dX10_image_1 kc10 fl_X10_76 rfl ?_
  refine J_cnr (pc := 4) (N := mX5_isFull) dX10_image_4 ml_X10_140 cf_X5_isFull cv_X5_isFull (r_X5_isFull sh34 h0) rfl rfl (Nat.le_of_ble_eq_true rfl) (by decide) (rv_of (ci := 5) (by first | exact shf_n (by assumption) | rfl) rfl rfl) ?_
  refine J_ifp_eq (pc := 7) (tgt := 12) dX10_image_7 (by decide) (fun c7 => ?_) (fun c7 => absurd c7 (by rw [h3]; exact nI_ge hq (by decide)))
  refine J_aload_n (pc := 12) dX10_image_12 rfl ?_
  refine J_getr (pc := 13) dX10_image_13 kc10 fl_X10_79 rfl ?_
  refine J_aload_n (pc := 16) dX10_image_16 rfl ?_
  refine J_getr (pc := 17) dX10_image_17 kc10 fl_X10_76 rfl ?_
  refine J_getiN (pc := 20) dX10_image_20 kc5 fl_X10_130 (by first | exact shf_i3 (by assumption) | rfl) ?_
  rw [h3]
  refine J_ar (pc := 23) (t := 0) (b := 53 + 2 * q) dX10_image_23 rfl (Or.inl rfl) rfl ⟨hq, by decide⟩ rfl ?_
  refine J_aload_n (pc := 24) dX10_image_24 rfl ?_
  refine J_getr (pc := 25) dX10_image_25 kc10 fl_X10_72 rfl ?_
  refine J_cnv (pc := 28) (N := mX5_copyOf) dX10_image_28 ml_X10_347 cf_X5_copyOf cv_X5_copyOf (r_X5_copyOf hq5 sh32 l0 l1 k1 k3 hw hw z3) rfl rfl (Nat.le_of_ble_eq_true rfl) (by decide) (rv_of (ci := 5) (shf_n hq5) rfl rfl) ?_
  refine J_aload_n (pc := 31) dX10_image_31 rfl ?_
  refine J_getr (pc := 32) dX10_image_32 kc10 fl_X10_76 rfl ?_
  refine J_aload_n (pc := 35) dX10_image_35 rfl ?_
  refine J_getr (pc := 36) dX10_image_36 kc10 fl_X10_27 rfl ?_
  refine J_getrN (pc := 39) dX10_image_39 kc0 fl_X10_146 (by first | exact cvn_r0 (by assumption) | rfl) ?_
  refine J_cnv (pc := 42) (N := mX5_push) dX10_image_42 ml_X10_150 cf_X5_push cv_X5_push (r_X5_push (h := q) sh34 ((congrFun (up2_o (fun z => z1 z.symm)) 0).trans h0) ((congrFun (up2_o (fun z => z1 z.symm)) 1).trans h1) ((congrFun (up2_o (fun z => z1 z.symm)) 3).trans h3) hq) rfl rfl (Nat.le_of_ble_eq_true rfl) (by decide) (rv_of (ci := 5) (by first | exact shf_n (by assumption) | rfl) rfl rfl) ?_
  refine J_aload_n (pc := 45) dX10_image_45 rfl ?_
  refine J_getr (pc := 46) dX10_image_46 kc10 fl_X10_76 rfl ?_
  refine J_getiN (pc := 49) dX10_image_49 kc5 fl_X10_130 (by first | exact shf_i3 (by assumption) | rfl) ?_
  refine J_t1 (y := nI (q + 1)) rfl ?_
  exact J_iret (pc := 52) rfl rfl rfl dX10_image_52 (rq hQ rfl (by unfold imC; rw [show sa (sF (sAA S (53 + 2 * q + 1) _) (53 + 2 * q) 3 (nI w)) 16 = sa S 16 from sAA_o (fun z => z4 z.symm), show sa (sF (sAA S (53 + 2 * q + 1) _) (53 + 2 * q) 3 (nI w)) (34 + 1) = sa S 35 from sAA_o (fun z => z2 z.symm)]))
theorem r_X10_restore_no {g : Gp} {S : Sx} (h3 : sf S 34 3 = 0) : RT g mX10_restore 0 [.ref 0] S (some (.int (-1))) S := by
  refine RT_ofQ ⟨rfl, rfl⟩ (Nat.le_of_ble_eq_true rfl) (fun sz Q hQ => ?_)
  refine J_aload_n (pc := 0) dX10_restore_0 rfl ?_
  refine J_getr (pc := 1) dX10_restore_1 kc10 fl_X10_76 rfl ?_
  refine J_getiN (pc := 4) dX10_restore_4 kc5 fl_X10_130 (by first | exact shf_i3 (by assumption) | rfl) ?_
  refine J_if_ne (pc := 7) (tgt := 12) dX10_restore_7 (by decide) (fun c7 => absurd h3 c7) (fun c7 => ?_)
  refine J_iconst (pc := 10) (v := -1) dX10_restore_10 (by decide) ?_
  exact J_iret (pc := 11) rfl rfl rfl dX10_restore_11 (rq hQ rfl rfl)
theorem r_X10_restore {g : Gp} {S : Sx} {q w : Nat} (h0 : sf S 34 0 = nI 3) (h1 : sf S 34 1 = 31) (k0 : sf S 32 0 = nI 16) (k1 : sf S 32 1 = 31) (l0 : sf S (53 + 2 * q) 0 = nI 16) (l1 : sf S (53 + 2 * q) 1 = 31) (h3 : sf S 34 3 = nI (q + 1)) (hq : q < 3) (l3 : sf S (53 + 2 * q) 3 = nI w) (hw : w ≤ 16) : RT g mX10_restore 1 [.ref 0] S (some (.int (nI q))) (reC S q w) := by
  refine RT_ofQ ⟨rfl, rfl⟩ (Nat.le_of_ble_eq_true rfl) (fun sz Q hQ => ?_)
  have hq5 := sh5 hq
  obtain ⟨z1, z2, z3, z4⟩ : 53 + 2 * q ≠ 34 ∧ 53 + 2 * q + 1 ≠ 35 ∧ 53 + 2 * q ≠ 32 ∧ 53 + 2 * q + 1 ≠ 16 := by omega
  refine J_aload_n (pc := 0) dX10_restore_0 rfl ?_
  refine J_getr (pc := 1) dX10_restore_1 kc10 fl_X10_76 rfl ?_
  refine J_getiN (pc := 4) dX10_restore_4 kc5 fl_X10_130 (by first | exact shf_i3 (by assumption) | rfl) ?_
  rw [h3]
  refine J_if_ne (pc := 7) (tgt := 12) dX10_restore_7 (by decide) (fun c7 => ?_) (fun c7 => absurd c7 (nI_ne0 (by omega) (by omega)))
  refine J_aload_n (pc := 12) dX10_restore_12 rfl ?_
  refine J_getr (pc := 13) dX10_restore_13 kc10 fl_X10_76 rfl ?_
  refine J_aload_n (pc := 16) dX10_restore_16 rfl ?_
  refine J_getr (pc := 17) dX10_restore_17 kc10 fl_X10_27 rfl ?_
  refine J_getrN (pc := 20) dX10_restore_20 kc0 fl_X10_146 (by first | exact cvn_r0 (by assumption) | rfl) ?_
  refine J_cnv (pc := 23) (N := mX5_pop) dX10_restore_23 ml_X10_174 cf_X5_pop cv_X5_pop (r_X5_pop sh34 h0 h1 h3 hq) rfl rfl (Nat.le_of_ble_eq_true rfl) (by decide) (rv_of (ci := 5) (by first | exact shf_n (by assumption) | rfl) rfl rfl) ?_
  refine J_aload_n (pc := 26) dX10_restore_26 rfl ?_
  refine J_getr (pc := 27) dX10_restore_27 kc10 fl_X10_72 rfl ?_
  refine J_aload_n (pc := 30) dX10_restore_30 rfl ?_
  refine J_getr (pc := 31) dX10_restore_31 kc10 fl_X10_79 rfl ?_
  refine J_aload_n (pc := 34) dX10_restore_34 rfl ?_
  refine J_getr (pc := 35) dX10_restore_35 kc10 fl_X10_76 rfl ?_
  refine J_getiN (pc := 38) dX10_restore_38 kc5 fl_X10_130 (by first | exact shf_i3 (by assumption) | rfl) ?_
  refine J_t1 (y := nI q) rfl ?_
  refine J_ar (pc := 41) (t := 0) (b := 53 + 2 * q) dX10_restore_41 rfl (Or.inl rfl) rfl ⟨hq, by decide⟩ rfl ?_
  refine J_cnv (pc := 42) (N := mX5_copyOf) dX10_restore_42 ml_X10_347 cf_X5_copyOf cv_X5_copyOf (r_X5_copyOf (q := 53 + 2 * q) sh32 hq5 k0 k1 ((congrFun (up2_o z1) 1).trans l1) ((congrFun (up2_o z1) 3).trans l3) hw hw (fun z => z3 z.symm)) rfl rfl (Nat.le_of_ble_eq_true rfl) (by decide) (rv_of (ci := 5) (by first | exact shf_n (by assumption) | rfl) rfl rfl) ?_
  refine J_aload_n (pc := 45) dX10_restore_45 rfl ?_
  refine J_iconst (pc := 46) (v := 0) dX10_restore_46 (by decide) ?_
  refine J_puti (pc := 47) dX10_restore_47 kc10 fl_X10_133 rfl ⟨rfl, rfl⟩ ?_
  refine J_aload_n (pc := 50) dX10_restore_50 rfl ?_
  refine J_getr (pc := 51) dX10_restore_51 kc10 fl_X10_76 rfl ?_
  refine J_getiN (pc := 54) dX10_restore_54 kc5 fl_X10_130 (by first | exact shf_i3 (by assumption) | rfl) ?_
  refine J_t1 (y := nI q) rfl ?_
  exact J_iret (pc := 57) rfl rfl rfl dX10_restore_57 (rq hQ rfl (by unfold reC; rw [show sa (sAA (sF S 34 3 (nI q)) 16 _) (53 + 2 * q + 1) = sa S (53 + 2 * q + 1) from sAA_o z4, show sa (sAA (sF S 34 3 (nI q)) 16 _) (32 + 1) = sa S 33 from sAA_o (by decide)]))
theorem i012 {x : Int32} (h : x.toInt < 0 ∨ 2 < x.toInt) : ¬ x = 0 ∧ ¬ x = 1 ∧ ¬ x = 2 := by
  refine ⟨?_, ?_, ?_⟩ <;> (intro e; subst e; revert h; decide)
theorem r_X10_count {g : Gp} {S : Sx} {x : Int32} : RT g mX10_count 0 [.ref 0, .int x] S (some (.int (if x = 0 then sf S 34 3 else if x = 1 then sf S 1 1 else if x = 2 then sf S 32 3 else -1))) S := by
  refine RT_ofQ ⟨rfl, rfl⟩ (Nat.le_of_ble_eq_true rfl) (fun sz Q hQ => ?_)
  by_cases h0 : x = 0
  · subst h0
    refine J_iload_n (pc := 0) dX10_count_0 rfl ?_
    refine J_tableIn (pc := 1) (off := 27) (tgt := 28) dX10_count_1 (by decide) (by decide) (by decide) (by decide) ?_
    refine J_aload_n (pc := 28) dX10_count_28 rfl ?_
    refine J_getr (pc := 29) dX10_count_29 kc10 fl_X10_76 rfl ?_
    refine J_getiN (pc := 32) dX10_count_32 kc5 fl_X10_130 (by first | exact shf_i3 (by assumption) | rfl) ?_
    exact J_iret (pc := 35) rfl rfl rfl dX10_count_35 (rq hQ rfl rfl)
  by_cases h1 : x = 1
  · subst h1
    refine J_iload_n (pc := 0) dX10_count_0 rfl ?_
    refine J_tableIn (pc := 1) (off := 35) (tgt := 36) dX10_count_1 (by decide) (by decide) (by decide) (by decide) ?_
    refine J_aload_n (pc := 36) dX10_count_36 rfl ?_
    refine J_getr (pc := 37) dX10_count_37 kc10 fl_X10_10 rfl ?_
    refine J_getiN (pc := 40) dX10_count_40 kc8 fl_X10_107 rfl ?_
    exact J_iret (pc := 43) rfl rfl rfl dX10_count_43 (rq hQ rfl rfl)
  by_cases h2 : x = 2
  · subst h2
    refine J_iload_n (pc := 0) dX10_count_0 rfl ?_
    refine J_tableIn (pc := 1) (off := 43) (tgt := 44) dX10_count_1 (by decide) (by decide) (by decide) (by decide) ?_
    refine J_aload_n (pc := 44) dX10_count_44 rfl ?_
    refine J_getr (pc := 45) dX10_count_45 kc10 fl_X10_72 rfl ?_
    refine J_getiN (pc := 48) dX10_count_48 kc5 fl_X10_130 (by first | exact shf_i3 (by assumption) | rfl) ?_
    exact J_iret (pc := 51) rfl rfl rfl dX10_count_51 (rq hQ rfl rfl)
  refine J_iload_n (pc := 0) dX10_count_0 rfl ?_
  refine J_tableOut (pc := 1) (tgt := 52) dX10_count_1 (by have a0 : x.toInt ≠ 0 := fun e => h0 (Int32.toInt_inj.mp e); have a1 : x.toInt ≠ 1 := fun e => h1 (Int32.toInt_inj.mp e); have a2 : x.toInt ≠ 2 := fun e => h2 (Int32.toInt_inj.mp e); omega) (by decide) ?_
  refine J_iconst (pc := 52) (v := -1) dX10_count_52 (by decide) ?_
  exact J_iret (pc := 53) rfl rfl rfl dX10_count_53 (rq hQ (by rw [if_neg h0, if_neg h1, if_neg h2]) rfl)
