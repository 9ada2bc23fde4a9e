theorem lk01 {x : Int32} {o0 o1 df : Int} (h0 : ¬ x = 0) (h1 : ¬ x = 1) : Op.lookupswitch.offset [(0, o0), (1, o1)] df x.toInt = df := by
  show (if (0 : Int) = x.toInt then o0 else if (1 : Int) = x.toInt then o1 else df) = df
  rw [if_neg (fun q => h0 (Int32.toInt_inj.mp (show x.toInt = (0 : Int32).toInt from q.symm))), if_neg (fun q => h1 (Int32.toInt_inj.mp (show x.toInt = (1 : Int32).toInt from q.symm)))]
theorem sm_0 {F : Nat → Int32} {n : Nat} (h : F n = 0) : sm F n = sm F (n + 1) := by show _ = sm F n + F n; rw [h, Int32.add_zero]
theorem sm_v {F : Nat → Int32} {n : Nat} {v : Int32} (h : F n = v) : sm F n + v = sm F (n + 1) := by rw [← h]; rfl
theorem r_X10_strongest {g : Gp} {S : Sx} {a b m : Nat} {d : HD} {wv : Nat → Nat × Nat} {f : Row} (hX : CX S 3 16 17 a b d m wv f) {x : Int32} (hx : 0 ≤ x ∧ x ≤ 1) : RW g mX10_strongest 6 [.ref 0, .int x] S (some (.int (if x = 0 then (bst (fun r => decide (f (16 + r) ≠ -1)) (pwN d m wv f) (-1) (dNr d)).1 else (bst (fun r => decide (f (16 + r) ≠ -1)) (pwN d m wv f) (-1) (dNr d)).2))) S := by
  refine RW_ofQ ⟨rfl, rfl⟩ (Nat.le_of_ble_eq_true rfl) (fun T sz Q hQ => ?_)
  obtain ⟨hCL, hHL, hLL, hp2, hp3, hHC, hv, hW, hLC, hRC⟩ := id hX
  have n1 : dNs d ≤ 8 := hv.1
  have n2 : dNr d ≤ 10 := hv.2.1
  have n3 : dNp d ≤ 8 := hv.2.2.1
  refine J_aload_n (pc := 0) dX10_strongest_0 rfl ?_
  refine J_iload_n (pc := 1) dX10_strongest_1 rfl ?_
  refine J_iconst (pc := 2) (v := 0) dX10_strongest_2 (by decide) ?_
  refine J_iconst (pc := 3) (v := 1) dX10_strongest_3 (by decide) ?_
  refine J_csr (pc := 4) (N := mX10_isWithin) dX10_strongest_4 ml_X10_177 cf_X10_isWithin cs_X10_isWithin r_X10_isWithin rfl rfl (Nat.le_of_ble_eq_true rfl) (by decide) ?_
  refine J_t1 (bI_t hx) ?_
  refine J_cvv (pc := 7) (N := mX10_needArgument) dX10_strongest_7 ml_X10_181 cf_X10_needArgument cv_X10_needArgument r_X10_needArgument_ok rfl rfl (Nat.le_of_ble_eq_true rfl) (by decide) (rv_of (ci := 10) rfl rfl rfl) ?_
  refine J_iconst (pc := 10) (v := -1) dX10_strongest_10 (by decide) ?_
  refine J_istore_n (pc := 11) dX10_strongest_11 (by decide) rfl ?_
  refine J_iconst (pc := 12) (v := -1) dX10_strongest_12 (by decide) ?_
  refine J_istore_n (pc := 13) dX10_strongest_13 (by decide) rfl ?_
  refine J_iconst (pc := 14) (v := 0) dX10_strongest_14 (by decide) ?_
  refine J_istore (pc := 15) dX10_strongest_15 (by decide) rfl ?_
  show J g mX10_strongest 6 [] 17 [some (.ref 0), some (.int x), some (.int (-1)), some (.int (-1)), some (.int 0), none] [] (hs (w1 S T)) sz 0 0 Q
  refine dn_ind (n := dNr d) (P := fun i => ∀ x5 : Option Value, ∀ T, J g mX10_strongest 6 [] 17 [some (.ref 0), some (.int x), some (.int (bst (fun r => decide (f (16 + r) ≠ -1)) (pwN d m wv f) (-1) i).1), some (.int (bst (fun r => decide (f (16 + r) ≠ -1)) (pwN d m wv f) (-1) i).2), some (.int (ix i)), x5] [] (hs (w1 S T)) sz 0 0 Q) ?_ (fun i hi ih => ?_) 0 (Nat.zero_le _) _ _
  · intro x5
    intro T
    refine J_iload (pc := 17) dX10_strongest_17 rfl ?_
    refine J_aload_n (pc := 19) dX10_strongest_19 rfl ?_
    refine J_getr (pc := 20) dX10_strongest_20 kc10 fl_X10_27 rfl ?_
    refine J_getpN (pc := 23) dX10_strongest_23 kc0 fl_X10_54 (by first | exact cvn_p2 (by assumption) | rfl) ?_
    refine J_tr hp2 ?_
    refine J_getiN (pc := 26) dX10_strongest_26 kc1 fl_X10_136 (by first | exact hou_i9 (by assumption) | rfl) ?_
    refine J_icmp_ge (pc := 29) (tgt := 73) dX10_strongest_29 (by decide) (fun c29 => ?_) (fun c29 => absurd (ix_ge hHC.2.1) c29)
    refine J_iload_n (pc := 73) dX10_strongest_73 rfl ?_
    refine J_if_ne (pc := 74) (tgt := 81) dX10_strongest_74 (by decide) (fun c74 => ?_) (fun c74 => ?_)
    · refine J_iload_n (pc := 81) dX10_strongest_81 rfl ?_
      exact J_iret (pc := 82) rfl rfl rfl dX10_strongest_82 (rqw hQ (by first | rw [if_pos c74] | rw [if_neg c74]) rfl)
    · refine J_iload_n (pc := 77) dX10_strongest_77 rfl ?_
      refine J_goto (pc := 78) (tgt := 82) dX10_strongest_78 (by decide) ?_
      exact J_iret (pc := 82) rfl rfl rfl dX10_strongest_82 (rqw hQ (by first | rw [if_pos c74] | rw [if_neg c74]) rfl)
  · intro x5
    intro T
    refine J_iload (pc := 17) dX10_strongest_17 rfl ?_
    refine J_aload_n (pc := 19) dX10_strongest_19 rfl ?_
    refine J_getr (pc := 20) dX10_strongest_20 kc10 fl_X10_27 rfl ?_
    refine J_getpN (pc := 23) dX10_strongest_23 kc0 fl_X10_54 (by first | exact cvn_p2 (by assumption) | rfl) ?_
    refine J_tr hp2 ?_
    refine J_getiN (pc := 26) dX10_strongest_26 kc1 fl_X10_136 (by first | exact hou_i9 (by assumption) | rfl) ?_
    refine J_icmp_ge (pc := 29) (tgt := 73) dX10_strongest_29 (by decide) (fun c29 => absurd c29 (ix_lt hHC.2.1 hi (by omega))) (fun c29 => ?_)
    refine J_aload_n (pc := 32) dX10_strongest_32 rfl ?_
    refine J_getr (pc := 33) dX10_strongest_33 kc10 fl_X10_27 rfl ?_
    refine J_iload (pc := 36) dX10_strongest_36 rfl ?_
    refine J_t1 (ix_nI i) ?_
    refine J_cnr (pc := 38) (N := mX0_isKept) dX10_strongest_38 ml_X10_227 cf_X0_isKept cv_X0_isKept (r_X0_isKept (S := w1 S T) hX hi) rfl rfl (Nat.le_of_ble_eq_true rfl) (by decide) (rv_of (ci := 0) (by first | exact cvn_n (by assumption) | rfl) rfl rfl) ?_
    refine J_ifp_eq (pc := 41) (tgt := 67) dX10_strongest_41 (by decide) (fun c41 => ?_) (fun c41 => ?_)
    · rw [← bst_f (ok := (fun r => decide (f (16 + r) ≠ -1))) (f := pwN d m wv f) (m0 := -1) (r := i) (fun q => c41 (of_decide_eq_true q.1))]
      refine J_iinc (pc := 67) (v := 1) dX10_strongest_67 rfl (by decide) rfl ?_
      refine J_goto (pc := 70) (tgt := 17) dX10_strongest_70 (by decide) ?_
      exact ih _ T
    · refine J_aload_n (pc := 44) dX10_strongest_44 rfl ?_
      refine J_getr (pc := 45) dX10_strongest_45 kc10 fl_X10_27 rfl ?_
      refine J_iload (pc := 48) dX10_strongest_48 rfl ?_
      refine J_t1 (ix_nI i) ?_
      refine J_cnw (pc := 50) (N := mX0_powerOf) dX10_strongest_50 ml_X10_230 cf_X0_powerOf cv_X0_powerOf (r_X0_powerOf hX hi) rfl rfl (Nat.le_of_ble_eq_true rfl) (by decide) (rv_of (ci := 0) (by first | exact cvn_n (by assumption) | rfl) rfl rfl) ?_
      intro T
      refine J_istore (pc := 53) dX10_strongest_53 (by decide) rfl ?_
      refine J_iload (pc := 55) dX10_strongest_55 rfl ?_
      refine J_iload_n (pc := 57) dX10_strongest_57 rfl ?_
      refine J_icmp_le (pc := 58) (tgt := 67) dX10_strongest_58 (by decide) (fun c58 => ?_) (fun c58 => ?_)
      · rw [← bst_f (ok := (fun r => decide (f (16 + r) ≠ -1))) (f := pwN d m wv f) (m0 := -1) (r := i) (fun q => Int32.not_le.mpr q.2 c58)]
        refine J_iinc (pc := 67) (v := 1) dX10_strongest_67 rfl (by decide) rfl ?_
        refine J_goto (pc := 70) (tgt := 17) dX10_strongest_70 (by decide) ?_
        exact ih _ T
      · rw [bst_t (ok := (fun r => decide (f (16 + r) ≠ -1))) (f := pwN d m wv f) (m0 := -1) (r := i) ⟨decide_eq_true c41, Int32.not_le.mp c58⟩] at ih
        refine J_iload (pc := 61) dX10_strongest_61 rfl ?_
        refine J_istore_n (pc := 63) dX10_strongest_63 (by decide) rfl ?_
        refine J_iload (pc := 64) dX10_strongest_64 rfl ?_
        refine J_istore_n (pc := 66) dX10_strongest_66 (by decide) rfl ?_
        refine J_iinc (pc := 67) (v := 1) dX10_strongest_67 rfl (by decide) rfl ?_
        refine J_goto (pc := 70) (tgt := 17) dX10_strongest_70 (by decide) ?_
        exact ih _ T
theorem r_X10_eldest {g : Gp} {S : Sx} {a b m : Nat} {d : HD} {wv : Nat → Nat × Nat} {f : Row} (hX : CX S 3 16 17 a b d m wv f) {x : Int32} (hx : 0 ≤ x ∧ x ≤ 1) : RT g mX10_eldest 2 [.ref 0, .int x] S (some (.int (if x = 0 then (bst (fun r => decide (f (16 + r) ≠ -1)) (fun r => f (16 + r)) (-1) (dNr d)).1 else (bst (fun r => decide (f (16 + r) ≠ -1)) (fun r => f (16 + r)) (-1) (dNr d)).2))) S := by
  refine RT_ofQ ⟨rfl, rfl⟩ (Nat.le_of_ble_eq_true rfl) (fun sz Q hQ => ?_)
  obtain ⟨hCL, hHL, hLL, hp2, hp3, hHC, hv, hW, hLC, hRC⟩ := id hX
  have n1 : dNs d ≤ 8 := hv.1
  have n2 : dNr d ≤ 10 := hv.2.1
  have n3 : dNp d ≤ 8 := hv.2.2.1
  refine J_aload_n (pc := 0) dX10_eldest_0 rfl ?_
  refine J_iload_n (pc := 1) dX10_eldest_1 rfl ?_
  refine J_iconst (pc := 2) (v := 0) dX10_eldest_2 (by decide) ?_
  refine J_iconst (pc := 3) (v := 1) dX10_eldest_3 (by decide) ?_
  refine J_csr (pc := 4) (N := mX10_isWithin) dX10_eldest_4 ml_X10_177 cf_X10_isWithin cs_X10_isWithin r_X10_isWithin rfl rfl (Nat.le_of_ble_eq_true rfl) (by decide) ?_
  refine J_t1 (bI_t hx) ?_
  refine J_cvv (pc := 7) (N := mX10_needArgument) dX10_eldest_7 ml_X10_181 cf_X10_needArgument cv_X10_needArgument r_X10_needArgument_ok rfl rfl (Nat.le_of_ble_eq_true rfl) (by decide) (rv_of (ci := 10) rfl rfl rfl) ?_
  refine J_iconst (pc := 10) (v := -1) dX10_eldest_10 (by decide) ?_
  refine J_istore_n (pc := 11) dX10_eldest_11 (by decide) rfl ?_
  refine J_iconst (pc := 12) (v := -1) dX10_eldest_12 (by decide) ?_
  refine J_istore_n (pc := 13) dX10_eldest_13 (by decide) rfl ?_
  refine J_iconst (pc := 14) (v := 0) dX10_eldest_14 (by decide) ?_
  refine J_istore (pc := 15) dX10_eldest_15 (by decide) rfl ?_
  show J g mX10_eldest 2 [] 17 [some (.ref 0), some (.int x), some (.int (-1)), some (.int (-1)), some (.int 0)] [] (hs S) sz 0 0 Q
  refine dn_ind (n := dNr d) (P := fun i => J g mX10_eldest 2 [] 17 [some (.ref 0), some (.int x), some (.int (bst (fun r => decide (f (16 + r) ≠ -1)) (fun r => f (16 + r)) (-1) i).1), some (.int (bst (fun r => decide (f (16 + r) ≠ -1)) (fun r => f (16 + r)) (-1) i).2), some (.int (ix i))] [] (hs S) sz 0 0 Q) ?_ (fun i hi ih => ?_) 0 (Nat.zero_le _)
  · refine J_iload (pc := 17) dX10_eldest_17 rfl ?_
    refine J_aload_n (pc := 19) dX10_eldest_19 rfl ?_
    refine J_getr (pc := 20) dX10_eldest_20 kc10 fl_X10_27 rfl ?_
    refine J_getpN (pc := 23) dX10_eldest_23 kc0 fl_X10_54 (by first | exact cvn_p2 (by assumption) | rfl) ?_
    refine J_tr hp2 ?_
    refine J_getiN (pc := 26) dX10_eldest_26 kc1 fl_X10_136 (by first | exact hou_i9 (by assumption) | rfl) ?_
    refine J_icmp_ge (pc := 29) (tgt := 82) dX10_eldest_29 (by decide) (fun c29 => ?_) (fun c29 => absurd (ix_ge hHC.2.1) c29)
    refine J_iload_n (pc := 82) dX10_eldest_82 rfl ?_
    refine J_if_ne (pc := 83) (tgt := 90) dX10_eldest_83 (by decide) (fun c83 => ?_) (fun c83 => ?_)
    · refine J_iload_n (pc := 90) dX10_eldest_90 rfl ?_
      exact J_iret (pc := 91) rfl rfl rfl dX10_eldest_91 (rq hQ (by first | rw [if_pos c83] | rw [if_neg c83]) rfl)
    · refine J_iload_n (pc := 86) dX10_eldest_86 rfl ?_
      refine J_goto (pc := 87) (tgt := 91) dX10_eldest_87 (by decide) ?_
      exact J_iret (pc := 91) rfl rfl rfl dX10_eldest_91 (rq hQ (by first | rw [if_pos c83] | rw [if_neg c83]) rfl)
  · refine J_iload (pc := 17) dX10_eldest_17 rfl ?_
    refine J_aload_n (pc := 19) dX10_eldest_19 rfl ?_
    refine J_getr (pc := 20) dX10_eldest_20 kc10 fl_X10_27 rfl ?_
    refine J_getpN (pc := 23) dX10_eldest_23 kc0 fl_X10_54 (by first | exact cvn_p2 (by assumption) | rfl) ?_
    refine J_tr hp2 ?_
    refine J_getiN (pc := 26) dX10_eldest_26 kc1 fl_X10_136 (by first | exact hou_i9 (by assumption) | rfl) ?_
    refine J_icmp_ge (pc := 29) (tgt := 82) dX10_eldest_29 (by decide) (fun c29 => absurd c29 (ix_lt hHC.2.1 hi (by omega))) (fun c29 => ?_)
    refine J_aload_n (pc := 32) dX10_eldest_32 rfl ?_
    refine J_getr (pc := 33) dX10_eldest_33 kc10 fl_X10_27 rfl ?_
    refine J_iload (pc := 36) dX10_eldest_36 rfl ?_
    refine J_t1 (ix_nI i) ?_
    refine J_cnr (pc := 38) (N := mX0_isKept) dX10_eldest_38 ml_X10_227 cf_X0_isKept cv_X0_isKept (r_X0_isKept hX hi) rfl rfl (Nat.le_of_ble_eq_true rfl) (by decide) (rv_of (ci := 0) (by first | exact cvn_n (by assumption) | rfl) rfl rfl) ?_
    refine J_ifp_eq (pc := 41) (tgt := 76) dX10_eldest_41 (by decide) (fun c41 => ?_) (fun c41 => ?_)
    · rw [← bst_f (ok := (fun r => decide (f (16 + r) ≠ -1))) (f := fun r => f (16 + r)) (m0 := -1) (r := i) (fun q => c41 (of_decide_eq_true q.1))]
      refine J_iinc (pc := 76) (v := 1) dX10_eldest_76 rfl (by decide) rfl ?_
      refine J_goto (pc := 79) (tgt := 17) dX10_eldest_79 (by decide) ?_
      exact ih
    · refine J_aload_n (pc := 44) dX10_eldest_44 rfl ?_
      refine J_getr (pc := 45) dX10_eldest_45 kc10 fl_X10_27 rfl ?_
      refine J_getrN (pc := 48) dX10_eldest_48 kc0 fl_X10_146 (by first | exact cvn_r0 (by assumption) | rfl) ?_
      refine J_iconst (pc := 51) (v := 5) dX10_eldest_51 (by decide) ?_
      refine J_iload (pc := 52) dX10_eldest_52 rfl ?_
      refine J_iadd (pc := 54) dX10_eldest_54 ?_
      refine J_il (pc := 55) dX10_eldest_55 (by first | exact cvn_e (by assumption) | rfl) (by rw [ix_nI]; exact nI_add 5 _) ⟨by first | decide | omega, by decide⟩ ?_
      refine J_t1 (hRC.2.2.2.2.2.1 _ hi c41) ?_
      refine J_iload_n (pc := 56) dX10_eldest_56 rfl ?_
      refine J_icmp_le (pc := 57) (tgt := 76) dX10_eldest_57 (by decide) (fun c57 => ?_) (fun c57 => ?_)
      · rw [← bst_f (ok := (fun r => decide (f (16 + r) ≠ -1))) (f := fun r => f (16 + r)) (m0 := -1) (r := i) (fun q => Int32.not_le.mpr q.2 c57)]
        refine J_iinc (pc := 76) (v := 1) dX10_eldest_76 rfl (by decide) rfl ?_
        refine J_goto (pc := 79) (tgt := 17) dX10_eldest_79 (by decide) ?_
        exact ih
      · rw [bst_t (ok := (fun r => decide (f (16 + r) ≠ -1))) (f := fun r => f (16 + r)) (m0 := -1) (r := i) ⟨decide_eq_true c41, Int32.not_le.mp c57⟩] at ih
        refine J_iload (pc := 60) dX10_eldest_60 rfl ?_
        refine J_istore_n (pc := 62) dX10_eldest_62 (by decide) rfl ?_
        refine J_aload_n (pc := 63) dX10_eldest_63 rfl ?_
        refine J_getr (pc := 64) dX10_eldest_64 kc10 fl_X10_27 rfl ?_
        refine J_getrN (pc := 67) dX10_eldest_67 kc0 fl_X10_146 (by first | exact cvn_r0 (by assumption) | rfl) ?_
        refine J_iconst (pc := 70) (v := 5) dX10_eldest_70 (by decide) ?_
        refine J_iload (pc := 71) dX10_eldest_71 rfl ?_
        refine J_iadd (pc := 73) dX10_eldest_73 ?_
        refine J_il (pc := 74) dX10_eldest_74 (by first | exact cvn_e (by assumption) | rfl) (by rw [ix_nI]; exact nI_add 5 _) ⟨by first | decide | omega, by decide⟩ ?_
        refine J_t1 (hRC.2.2.2.2.2.1 _ hi c41) ?_
        refine J_istore_n (pc := 75) dX10_eldest_75 (by decide) rfl ?_
        refine J_iinc (pc := 76) (v := 1) dX10_eldest_76 rfl (by decide) rfl ?_
        refine J_goto (pc := 79) (tgt := 17) dX10_eldest_79 (by decide) ?_
        exact ih
theorem r_X10_weakest {g : Gp} {S : Sx} {a b m : Nat} {d : HD} {wv : Nat → Nat × Nat} {f : Row} (hX : CX S 3 16 17 a b d m wv f) {x : Int32} (hx : 0 ≤ x ∧ x ≤ 1) : RT g mX10_weakest 2 [.ref 0, .int x] S (some (.int (if x = 0 ∨ (bst (fun _ => true) (fun s => f (8 + s)) 0 (dNs d)).1 = -1 then (bst (fun _ => true) (fun s => f (8 + s)) 0 (dNs d)).1 else (bst (fun _ => true) (fun s => f (8 + s)) 0 (dNs d)).2))) S := by
  refine RT_ofQ ⟨rfl, rfl⟩ (Nat.le_of_ble_eq_true rfl) (fun sz Q hQ => ?_)
  obtain ⟨hCL, hHL, hLL, hp2, hp3, hHC, hv, hW, hLC, hRC⟩ := id hX
  have n1 : dNs d ≤ 8 := hv.1
  have n2 : dNr d ≤ 10 := hv.2.1
  have n3 : dNp d ≤ 8 := hv.2.2.1
  refine J_aload_n (pc := 0) dX10_weakest_0 rfl ?_
  refine J_iload_n (pc := 1) dX10_weakest_1 rfl ?_
  refine J_iconst (pc := 2) (v := 0) dX10_weakest_2 (by decide) ?_
  refine J_iconst (pc := 3) (v := 1) dX10_weakest_3 (by decide) ?_
  refine J_csr (pc := 4) (N := mX10_isWithin) dX10_weakest_4 ml_X10_177 cf_X10_isWithin cs_X10_isWithin r_X10_isWithin rfl rfl (Nat.le_of_ble_eq_true rfl) (by decide) ?_
  refine J_t1 (bI_t hx) ?_
  refine J_cvv (pc := 7) (N := mX10_needArgument) dX10_weakest_7 ml_X10_181 cf_X10_needArgument cv_X10_needArgument r_X10_needArgument_ok rfl rfl (Nat.le_of_ble_eq_true rfl) (by decide) (rv_of (ci := 10) rfl rfl rfl) ?_
  refine J_iconst (pc := 10) (v := -1) dX10_weakest_10 (by decide) ?_
  refine J_istore_n (pc := 11) dX10_weakest_11 (by decide) rfl ?_
  refine J_iconst (pc := 12) (v := 0) dX10_weakest_12 (by decide) ?_
  refine J_istore_n (pc := 13) dX10_weakest_13 (by decide) rfl ?_
  refine J_iconst (pc := 14) (v := 0) dX10_weakest_14 (by decide) ?_
  refine J_istore (pc := 15) dX10_weakest_15 (by decide) rfl ?_
  show J g mX10_weakest 2 [] 17 [some (.ref 0), some (.int x), some (.int (-1)), some (.int 0), some (.int 0)] [] (hs S) sz 0 0 Q
  refine dn_ind (n := dNs d) (P := fun i => J g mX10_weakest 2 [] 17 [some (.ref 0), some (.int x), some (.int (bst (fun _ => true) (fun s => f (8 + s)) 0 i).1), some (.int (bst (fun _ => true) (fun s => f (8 + s)) 0 i).2), some (.int (ix i))] [] (hs S) sz 0 0 Q) ?_ (fun i hi ih => ?_) 0 (Nat.zero_le _)
  · refine J_iload (pc := 17) dX10_weakest_17 rfl ?_
    refine J_aload_n (pc := 19) dX10_weakest_19 rfl ?_
    refine J_getr (pc := 20) dX10_weakest_20 kc10 fl_X10_27 rfl ?_
    refine J_getpN (pc := 23) dX10_weakest_23 kc0 fl_X10_54 (by first | exact cvn_p2 (by assumption) | rfl) ?_
    refine J_tr hp2 ?_
    refine J_getiN (pc := 26) dX10_weakest_26 kc1 fl_X10_185 (by first | exact hou_i8 (by assumption) | rfl) ?_
    refine J_icmp_ge (pc := 29) (tgt := 72) dX10_weakest_29 (by decide) (fun c29 => ?_) (fun c29 => absurd (ix_ge hHC.1) c29)
    refine J_iload_n (pc := 72) dX10_weakest_72 rfl ?_
    refine J_if_eq (pc := 73) (tgt := 81) dX10_weakest_73 (by decide) (fun c73 => ?_) (fun c73 => ?_)
    · refine J_iload_n (pc := 81) dX10_weakest_81 rfl ?_
      refine J_goto (pc := 82) (tgt := 86) dX10_weakest_82 (by decide) ?_
      exact J_iret (pc := 86) rfl rfl rfl dX10_weakest_86 (rq hQ (by first | exact (if_pos (Or.inl c73)).symm | exact (if_pos (Or.inr c78)).symm | exact (if_neg (fun q => q.elim c73 c78)).symm) rfl)
    · refine J_iload_n (pc := 76) dX10_weakest_76 rfl ?_
      refine J_iconst (pc := 77) (v := -1) dX10_weakest_77 (by decide) ?_
      refine J_icmp_ne (pc := 78) (tgt := 85) dX10_weakest_78 (by decide) (fun c78 => ?_) (fun c78 => ?_)
      · refine J_iload_n (pc := 85) dX10_weakest_85 rfl ?_
        exact J_iret (pc := 86) rfl rfl rfl dX10_weakest_86 (rq hQ (by first | exact (if_pos (Or.inl c73)).symm | exact (if_pos (Or.inr c78)).symm | exact (if_neg (fun q => q.elim c73 c78)).symm) rfl)
      · refine J_iload_n (pc := 81) dX10_weakest_81 rfl ?_
        refine J_goto (pc := 82) (tgt := 86) dX10_weakest_82 (by decide) ?_
        exact J_iret (pc := 86) rfl rfl rfl dX10_weakest_86 (rq hQ (by first | exact (if_pos (Or.inl c73)).symm | exact (if_pos (Or.inr c78)).symm | exact (if_neg (fun q => q.elim c73 c78)).symm) rfl)
  · refine J_iload (pc := 17) dX10_weakest_17 rfl ?_
    refine J_aload_n (pc := 19) dX10_weakest_19 rfl ?_
    refine J_getr (pc := 20) dX10_weakest_20 kc10 fl_X10_27 rfl ?_
    refine J_getpN (pc := 23) dX10_weakest_23 kc0 fl_X10_54 (by first | exact cvn_p2 (by assumption) | rfl) ?_
    refine J_tr hp2 ?_
    refine J_getiN (pc := 26) dX10_weakest_26 kc1 fl_X10_185 (by first | exact hou_i8 (by assumption) | rfl) ?_
    refine J_icmp_ge (pc := 29) (tgt := 72) dX10_weakest_29 (by decide) (fun c29 => absurd c29 (ix_lt hHC.1 hi (by omega))) (fun c29 => ?_)
    refine J_aload_n (pc := 32) dX10_weakest_32 rfl ?_
    refine J_getr (pc := 33) dX10_weakest_33 kc10 fl_X10_27 rfl ?_
    refine J_getrN (pc := 36) dX10_weakest_36 kc0 fl_X10_146 (by first | exact cvn_r0 (by assumption) | rfl) ?_
    refine J_bipush (pc := 39) (v := 15) dX10_weakest_39 (by decide) ?_
    refine J_iload (pc := 41) dX10_weakest_41 rfl ?_
    refine J_iadd (pc := 43) dX10_weakest_43 ?_
    refine J_il (pc := 44) dX10_weakest_44 (by first | exact cvn_e (by assumption) | rfl) (by rw [ix_nI]; exact nI_add 15 _) ⟨by first | decide | omega, by decide⟩ ?_
    refine J_t1 (hRC.2.2.2.2.2.2.1 _ hi) ?_
    refine J_iload_n (pc := 45) dX10_weakest_45 rfl ?_
    refine J_icmp_le (pc := 46) (tgt := 66) dX10_weakest_46 (by decide) (fun c46 => ?_) (fun c46 => ?_)
    · rw [← bst_f (ok := fun _ => true) (f := fun s => f (8 + s)) (m0 := 0) (r := i) (fun q => Int32.not_le.mpr q.2 c46)]
      refine J_iinc (pc := 66) (v := 1) dX10_weakest_66 rfl (by decide) rfl ?_
      refine J_goto (pc := 69) (tgt := 17) dX10_weakest_69 (by decide) ?_
      exact ih
    · rw [bst_t (ok := fun _ => true) (f := fun s => f (8 + s)) (m0 := 0) (r := i) ⟨rfl, Int32.not_le.mp c46⟩] at ih
      refine J_iload (pc := 49) dX10_weakest_49 rfl ?_
      refine J_istore_n (pc := 51) dX10_weakest_51 (by decide) rfl ?_
      refine J_aload_n (pc := 52) dX10_weakest_52 rfl ?_
      refine J_getr (pc := 53) dX10_weakest_53 kc10 fl_X10_27 rfl ?_
      refine J_getrN (pc := 56) dX10_weakest_56 kc0 fl_X10_146 (by first | exact cvn_r0 (by assumption) | rfl) ?_
      refine J_bipush (pc := 59) (v := 15) dX10_weakest_59 (by decide) ?_
      refine J_iload (pc := 61) dX10_weakest_61 rfl ?_
      refine J_iadd (pc := 63) dX10_weakest_63 ?_
      refine J_il (pc := 64) dX10_weakest_64 (by first | exact cvn_e (by assumption) | rfl) (by rw [ix_nI]; exact nI_add 15 _) ⟨by first | decide | omega, by decide⟩ ?_
      refine J_t1 (hRC.2.2.2.2.2.2.1 _ hi) ?_
      refine J_istore_n (pc := 65) dX10_weakest_65 (by decide) rfl ?_
      refine J_iinc (pc := 66) (v := 1) dX10_weakest_66 rfl (by decide) rfl ?_
      refine J_goto (pc := 69) (tgt := 17) dX10_weakest_69 (by decide) ?_
      exact ih
theorem and_self32 (x : Int32) : x &&& x = x := by
  apply bt_ext
  intro k _
  rw [bt_and, Bool.and_self]
theorem brf_f {kp : Nat → Bool} {il : Nat → Int32} {n : Nat} (h : ¬ kp n = true) : brf kp il n = brf kp il (n + 1) := by
  show _ = brf kp il n &&& (if kp n = true then (1 <<< (il n &&& 31)) ^^^ (-1) else brf kp il n)
  rw [if_neg h, and_self32]
theorem brf_t {kp : Nat → Bool} {il : Nat → Int32} {n : Nat} (h : kp n = true) : brf kp il n &&& ((1 <<< (il n &&& 31)) ^^^ (-1)) = brf kp il (n + 1) := by
  show _ = brf kp il n &&& (if kp n = true then (1 <<< (il n &&& 31)) ^^^ (-1) else brf kp il n)
  rw [if_pos h]
theorem r_X10_bare {g : Gp} {S : Sx} {a b m : Nat} {d : HD} {wv : Nat → Nat × Nat} {f : Row} (hX : CX S 3 16 17 a b d m wv f) : RT g mX10_bare 1 [.ref 0] S (some (.int (brf (fun r => decide (f (16 + r) ≠ -1)) (fun r => nI (dIl d r)) (dNr d)))) S := by
  refine RT_ofQ ⟨rfl, rfl⟩ (Nat.le_of_ble_eq_true rfl) (fun sz Q hQ => ?_)
  obtain ⟨hCL, hHL, hLL, hp2, hp3, hHC, hv, hW, hLC, hRC⟩ := id hX
  have n1 : dNs d ≤ 8 := hv.1
  have n2 : dNr d ≤ 10 := hv.2.1
  have n3 : dNp d ≤ 8 := hv.2.2.1
  refine J_bipush (pc := 0) (v := 63) dX10_bare_0 (by decide) ?_
  refine J_istore_n (pc := 2) dX10_bare_2 (by decide) rfl ?_
  refine J_iconst (pc := 3) (v := 0) dX10_bare_3 (by decide) ?_
  refine J_istore_n (pc := 4) dX10_bare_4 (by decide) rfl ?_
  show J g mX10_bare 1 [] 5 [some (.ref 0), some (.int 63), some (.int 0)] [] (hs S) sz 0 0 Q
  refine dn_ind (n := dNr d) (P := fun i => J g mX10_bare 1 [] 5 [some (.ref 0), some (.int (brf (fun r => decide (f (16 + r) ≠ -1)) (fun r => nI (dIl d r)) i)), some (.int (ix i))] [] (hs S) sz 0 0 Q) ?_ (fun i hi ih => ?_) 0 (Nat.zero_le _)
  · refine J_iload_n (pc := 5) dX10_bare_5 rfl ?_
    refine J_aload_n (pc := 6) dX10_bare_6 rfl ?_
    refine J_getr (pc := 7) dX10_bare_7 kc10 fl_X10_27 rfl ?_
    refine J_getpN (pc := 10) dX10_bare_10 kc0 fl_X10_54 (by first | exact cvn_p2 (by assumption) | rfl) ?_
    refine J_tr hp2 ?_
    refine J_getiN (pc := 13) dX10_bare_13 kc1 fl_X10_136 (by first | exact hou_i9 (by assumption) | rfl) ?_
    refine J_icmp_ge (pc := 16) (tgt := 55) dX10_bare_16 (by decide) (fun c16 => ?_) (fun c16 => absurd (ix_ge hHC.2.1) c16)
    refine J_iload_n (pc := 55) dX10_bare_55 rfl ?_
    exact J_iret (pc := 56) rfl rfl rfl dX10_bare_56 (rq hQ rfl rfl)
  · refine J_iload_n (pc := 5) dX10_bare_5 rfl ?_
    refine J_aload_n (pc := 6) dX10_bare_6 rfl ?_
    refine J_getr (pc := 7) dX10_bare_7 kc10 fl_X10_27 rfl ?_
    refine J_getpN (pc := 10) dX10_bare_10 kc0 fl_X10_54 (by first | exact cvn_p2 (by assumption) | rfl) ?_
    refine J_tr hp2 ?_
    refine J_getiN (pc := 13) dX10_bare_13 kc1 fl_X10_136 (by first | exact hou_i9 (by assumption) | rfl) ?_
    refine J_icmp_ge (pc := 16) (tgt := 55) dX10_bare_16 (by decide) (fun c16 => absurd c16 (ix_lt hHC.2.1 hi (by omega))) (fun c16 => ?_)
    refine J_aload_n (pc := 19) dX10_bare_19 rfl ?_
    refine J_getr (pc := 20) dX10_bare_20 kc10 fl_X10_27 rfl ?_
    refine J_iload_n (pc := 23) dX10_bare_23 rfl ?_
    refine J_t1 (ix_nI i) ?_
    refine J_cnr (pc := 24) (N := mX0_isKept) dX10_bare_24 ml_X10_227 cf_X0_isKept cv_X0_isKept (r_X0_isKept hX hi) rfl rfl (Nat.le_of_ble_eq_true rfl) (by decide) (rv_of (ci := 0) (by first | exact cvn_n (by assumption) | rfl) rfl rfl) ?_
    refine J_ifp_eq (pc := 27) (tgt := 49) dX10_bare_27 (by decide) (fun c27 => ?_) (fun c27 => ?_)
    · rw [brf_f (kp := (fun r => decide (f (16 + r) ≠ -1))) (il := fun r => nI (dIl d r)) (n := i) (fun q => c27 (of_decide_eq_true q))]
      refine J_iinc (pc := 49) (v := 1) dX10_bare_49 rfl (by decide) rfl ?_
      refine J_goto (pc := 52) (tgt := 5) dX10_bare_52 (by decide) ?_
      exact ih
    · refine J_iload_n (pc := 30) dX10_bare_30 rfl ?_
      refine J_iconst (pc := 31) (v := 1) dX10_bare_31 (by decide) ?_
      refine J_aload_n (pc := 32) dX10_bare_32 rfl ?_
      refine J_getr (pc := 33) dX10_bare_33 kc10 fl_X10_27 rfl ?_
      refine J_getpN (pc := 36) dX10_bare_36 kc0 fl_X10_54 (by first | exact cvn_p2 (by assumption) | rfl) ?_
      refine J_tr hp2 ?_
      refine J_getrN (pc := 39) dX10_bare_39 kc1 fl_X10_221 (by first | exact hou_r4 (by assumption) | rfl) ?_
      refine J_iload_n (pc := 42) dX10_bare_42 rfl ?_
      refine J_il (pc := 43) dX10_bare_43 (by first | exact hou_a4 (by assumption) | rfl) (by first | with_reducible rfl | assumption | exact ix_nI _ | rfl) ⟨by first | decide | omega, by decide⟩ ?_
      refine J_t1 ((hHC.2.2.2.2.1 _ hi).2.1) ?_
      refine J_ishl (pc := 44) dX10_bare_44 ?_
      refine J_iconst (pc := 45) (v := -1) dX10_bare_45 (by decide) ?_
      refine J_ixor (pc := 46) dX10_bare_46 ?_
      refine J_iand (pc := 47) dX10_bare_47 ?_
      refine J_t1 (brf_t (kp := (fun r => decide (f (16 + r) ≠ -1))) (il := fun r => nI (dIl d r)) (n := i) (decide_eq_true c27)) ?_
      refine J_istore_n (pc := 48) dX10_bare_48 (by decide) rfl ?_
      refine J_iinc (pc := 49) (v := 1) dX10_bare_49 rfl (by decide) rfl ?_
      refine J_goto (pc := 52) (tgt := 5) dX10_bare_52 (by decide) ?_
      exact ih
theorem r_X10_hopeless {g : Gp} {S : Sx} {a b m : Nat} {d : HD} {wv : Nat → Nat × Nat} {f : Row} (hX : CX S 3 16 17 a b d m wv f) {n : Nat} (hn : n ≤ 99) : RW g mX10_hopeless 6 [.ref 0, .int (nI n)] S (some (.int (msk (fun p => decide (f (36 + p) = -1) && decide (msk (fun r => cnB d m wv f r p (nI n)) (dNr d) = 0)) (dNp d)))) S := by
  refine RW_ofQ ⟨rfl, rfl⟩ (Nat.le_of_ble_eq_true rfl) (fun T sz Q hQ => ?_)
  obtain ⟨hCL, hHL, hLL, hp2, hp3, hHC, hv, hW, hLC, hRC⟩ := id hX
  have n1 : dNs d ≤ 8 := hv.1
  have n2 : dNr d ≤ 10 := hv.2.1
  have n3 : dNp d ≤ 8 := hv.2.2.1
  refine J_aload_n (pc := 0) dX10_hopeless_0 rfl ?_
  refine J_iload_n (pc := 1) dX10_hopeless_1 rfl ?_
  refine J_iconst (pc := 2) (v := 0) dX10_hopeless_2 (by decide) ?_
  refine J_bipush (pc := 3) (v := 99) dX10_hopeless_3 (by decide) ?_
  refine J_csr (pc := 5) (N := mX10_isWithin) dX10_hopeless_5 ml_X10_177 cf_X10_isWithin cs_X10_isWithin r_X10_isWithin rfl rfl (Nat.le_of_ble_eq_true rfl) (by decide) ?_
  refine J_t1 (bI_t (show 0 ≤ nI n ∧ nI n ≤ 99 from ⟨nI_pos' (by omega), nI_le (b := 99) hn (by decide)⟩)) ?_
  refine J_cvv (pc := 8) (N := mX10_needArgument) dX10_hopeless_8 ml_X10_181 cf_X10_needArgument cv_X10_needArgument r_X10_needArgument_ok rfl rfl (Nat.le_of_ble_eq_true rfl) (by decide) (rv_of (ci := 10) rfl rfl rfl) ?_
  refine J_iconst (pc := 11) (v := 0) dX10_hopeless_11 (by decide) ?_
  refine J_istore_n (pc := 12) dX10_hopeless_12 (by decide) rfl ?_
  refine J_iconst (pc := 13) (v := 0) dX10_hopeless_13 (by decide) ?_
  refine J_istore_n (pc := 14) dX10_hopeless_14 (by decide) rfl ?_
  show J g mX10_hopeless 6 [] 15 [some (.ref 0), some (.int (nI n)), some (.int 0), some (.int 0)] [] (hs (w1 S T)) sz 0 0 Q
  refine dn_ind (n := dNp d) (P := fun i => ∀ T, J g mX10_hopeless 6 [] 15 [some (.ref 0), some (.int (nI n)), some (.int (msk (fun p => decide (f (36 + p) = -1) && decide (msk (fun r => cnB d m wv f r p (nI n)) (dNr d) = 0)) i)), some (.int (ix i))] [] (hs (w1 S T)) sz 0 0 Q) ?_ (fun i hi ih => ?_) 0 (Nat.zero_le _) _
  · intro T
    refine J_iload_n (pc := 15) dX10_hopeless_15 rfl ?_
    refine J_aload_n (pc := 16) dX10_hopeless_16 rfl ?_
    refine J_getr (pc := 17) dX10_hopeless_17 kc10 fl_X10_27 rfl ?_
    refine J_getpN (pc := 20) dX10_hopeless_20 kc0 fl_X10_54 (by first | exact cvn_p2 (by assumption) | rfl) ?_
    refine J_tr hp2 ?_
    refine J_getiN (pc := 23) dX10_hopeless_23 kc1 fl_X10_188 (by first | exact hou_i10 (by assumption) | rfl) ?_
    refine J_icmp_ge (pc := 26) (tgt := 64) dX10_hopeless_26 (by decide) (fun c26 => ?_) (fun c26 => absurd (ix_ge hHC.2.2.1) c26)
    refine J_iload_n (pc := 64) dX10_hopeless_64 rfl ?_
    exact J_iret (pc := 65) rfl rfl rfl dX10_hopeless_65 (rqw hQ rfl rfl)
  · intro T
    refine J_iload_n (pc := 15) dX10_hopeless_15 rfl ?_
    refine J_aload_n (pc := 16) dX10_hopeless_16 rfl ?_
    refine J_getr (pc := 17) dX10_hopeless_17 kc10 fl_X10_27 rfl ?_
    refine J_getpN (pc := 20) dX10_hopeless_20 kc0 fl_X10_54 (by first | exact cvn_p2 (by assumption) | rfl) ?_
    refine J_tr hp2 ?_
    refine J_getiN (pc := 23) dX10_hopeless_23 kc1 fl_X10_188 (by first | exact hou_i10 (by assumption) | rfl) ?_
    refine J_icmp_ge (pc := 26) (tgt := 64) dX10_hopeless_26 (by decide) (fun c26 => absurd c26 (ix_lt hHC.2.2.1 hi (by omega))) (fun c26 => ?_)
    refine J_aload_n (pc := 29) dX10_hopeless_29 rfl ?_
    refine J_getr (pc := 30) dX10_hopeless_30 kc10 fl_X10_27 rfl ?_
    refine J_iload_n (pc := 33) dX10_hopeless_33 rfl ?_
    refine J_t1 (ix_nI i) ?_
    refine J_cnr (pc := 34) (N := mX0_isCured) dX10_hopeless_34 ml_X10_256 cf_X0_isCured cv_X0_isCured (r_X0_isCured (S := w1 S T) hX hi) rfl rfl (Nat.le_of_ble_eq_true rfl) (by decide) (rv_of (ci := 0) (by first | exact cvn_n (by assumption) | rfl) rfl rfl) ?_
    refine J_ifp_ne (pc := 37) (tgt := 58) dX10_hopeless_37 (by decide) (fun c37 => ?_) (fun c37 => ?_)
    · rw [msk_f0 (p := (fun p => decide (f (36 + p) = -1) && decide (msk (fun r => cnB d m wv f r p (nI n)) (dNr d) = 0))) (n := i) (fun q => c37 (of_decide_eq_true (Bool.and_eq_true_iff.mp q).1))]
      refine J_iinc (pc := 58) (v := 1) dX10_hopeless_58 rfl (by decide) rfl ?_
      refine J_goto (pc := 61) (tgt := 15) dX10_hopeless_61 (by decide) ?_
      exact ih T
    · refine J_aload_n (pc := 40) dX10_hopeless_40 rfl ?_
      refine J_getr (pc := 41) dX10_hopeless_41 kc10 fl_X10_27 rfl ?_
      refine J_iload_n (pc := 44) dX10_hopeless_44 rfl ?_
      refine J_t1 (ix_nI i) ?_
      refine J_iload_n (pc := 45) dX10_hopeless_45 rfl ?_
      refine J_cnw (pc := 46) (N := mX0_relicsThatCan) dX10_hopeless_46 ml_X10_245 cf_X0_relicsThatCan cv_X0_relicsThatCan (r_X0_relicsThatCan hX hi) rfl rfl (Nat.le_of_ble_eq_true rfl) (by decide) (rv_of (ci := 0) (by first | exact cvn_n (by assumption) | rfl) rfl rfl) ?_
      intro T
      refine J_if_ne (pc := 49) (tgt := 58) dX10_hopeless_49 (by decide) (fun c49 => ?_) (fun c49 => ?_)
      · rw [msk_f0 (p := (fun p => decide (f (36 + p) = -1) && decide (msk (fun r => cnB d m wv f r p (nI n)) (dNr d) = 0))) (n := i) (fun q => c49 (of_decide_eq_true (Bool.and_eq_true_iff.mp q).2))]
        refine J_iinc (pc := 58) (v := 1) dX10_hopeless_58 rfl (by decide) rfl ?_
        refine J_goto (pc := 61) (tgt := 15) dX10_hopeless_61 (by decide) ?_
        exact ih T
      · refine J_iload_n (pc := 52) dX10_hopeless_52 rfl ?_
        refine J_iconst (pc := 53) (v := 1) dX10_hopeless_53 (by decide) ?_
        refine J_iload_n (pc := 54) dX10_hopeless_54 rfl ?_
        refine J_ishl (pc := 55) dX10_hopeless_55 ?_
        refine J_ior (pc := 56) dX10_hopeless_56 ?_
        refine J_t1 (msk_t (p := (fun p => decide (f (36 + p) = -1) && decide (msk (fun r => cnB d m wv f r p (nI n)) (dNr d) = 0))) (n := i) (by simp only [Bool.and_eq_true, decide_eq_true_eq]; exact ⟨Decidable.not_not.mp c37, c49⟩)) ?_
        refine J_istore_n (pc := 57) dX10_hopeless_57 (by decide) rfl ?_
        refine J_iinc (pc := 58) (v := 1) dX10_hopeless_58 rfl (by decide) rfl ?_
        refine J_goto (pc := 61) (tgt := 15) dX10_hopeless_61 (by decide) ?_
        exact ih T
theorem idl_e {p q r : Nat → Bool} {n : Nat} (hn : n ≤ 32) (h : ∀ s, s < n → r s = (p s && !q s)) : msk p n &&& (msk q n ^^^ -1) = msk r n := by
  apply bt_ext
  intro k hk
  rw [bt_and, bt_xm _ hk, bt_msk p n hn, bt_msk q n hn, bt_msk r n hn]
  by_cases e : k < n
  · rw [decide_eq_true e, h k e]; cases p k <;> cases q k <;> rfl
  · rw [decide_eq_false e]; rfl
theorem r_X10_idle {g : Gp} {S : Sx} {a b m : Nat} {d : HD} {wv : Nat → Nat × Nat} {f : Row} (hX : CX S 3 16 17 a b d m wv f) : RT g mX10_idle 2 [.ref 0] S (some (.int (msk (fun s => decide (f (0 + s) = 0 ∧ kM d f s = 0)) (dNs d)))) S := by
  refine RT_ofQ ⟨rfl, rfl⟩ (Nat.le_of_ble_eq_true rfl) (fun sz Q hQ => ?_)
  obtain ⟨hCL, hHL, hLL, hp2, hp3, hHC, hv, hW, hLC, hRC⟩ := id hX
  have n1 : dNs d ≤ 8 := hv.1
  have n2 : dNr d ≤ 10 := hv.2.1
  have n3 : dNp d ≤ 8 := hv.2.2.1
  refine J_aload_n (pc := 0) dX10_idle_0 rfl ?_
  refine J_getr (pc := 1) dX10_idle_1 kc10 fl_X10_27 rfl ?_
  refine J_getrN (pc := 4) dX10_idle_4 kc0 fl_X10_146 (by first | exact cvn_r0 (by assumption) | rfl) ?_
  refine J_iconst (pc := 7) (v := 1) dX10_idle_7 (by decide) ?_
  refine J_il (pc := 8) dX10_idle_8 (by first | exact cvn_e (by assumption) | rfl) (rfl : (1 : Int32) = nI 1) ⟨by first | decide | omega, by decide⟩ ?_
  refine J_t1 (hRC.2.1) ?_
  refine J_aload_n (pc := 9) dX10_idle_9 rfl ?_
  refine J_getr (pc := 10) dX10_idle_10 kc10 fl_X10_27 rfl ?_
  refine J_cnr (pc := 13) (N := mX0_keepers) dX10_idle_13 ml_X10_328 cf_X0_keepers cv_X0_keepers (r_X0_keepers hX) rfl rfl (Nat.le_of_ble_eq_true rfl) (by decide) (rv_of (ci := 0) (by first | exact cvn_n (by assumption) | rfl) rfl rfl) ?_
  refine J_iconst (pc := 16) (v := -1) dX10_idle_16 (by decide) ?_
  refine J_ixor (pc := 17) dX10_idle_17 ?_
  refine J_iand (pc := 18) dX10_idle_18 ?_
  exact J_iret (pc := 19) rfl rfl rfl dX10_idle_19 (rq hQ (idl_e (by omega) (fun s hs => by by_cases h1 : f (0 + s) = 0 <;> by_cases h2 : kM d f s = 0 <;> simp [h1, h2])) rfl)
theorem r_X10_needs {g : Gp} {S : Sx} {a b m : Nat} {d : HD} {wv : Nat → Nat × Nat} {f : Row} (hX : CX S 3 16 17 a b d m wv f) {x : Int32} (hx : 0 ≤ x ∧ x ≤ 5) : RT g mX10_needs 1 [.ref 0, .int x] S (some (.int (sm (fun p => if nI (dPi d p) = x ∧ f (36 + p) = -1 then nI (dPn d p) else 0) (dNp d)))) S := by
  refine RT_ofQ ⟨rfl, rfl⟩ (Nat.le_of_ble_eq_true rfl) (fun sz Q hQ => ?_)
  obtain ⟨hCL, hHL, hLL, hp2, hp3, hHC, hv, hW, hLC, hRC⟩ := id hX
  have n1 : dNs d ≤ 8 := hv.1
  have n2 : dNr d ≤ 10 := hv.2.1
  have n3 : dNp d ≤ 8 := hv.2.2.1
  refine J_aload_n (pc := 0) dX10_needs_0 rfl ?_
  refine J_iload_n (pc := 1) dX10_needs_1 rfl ?_
  refine J_iconst (pc := 2) (v := 0) dX10_needs_2 (by decide) ?_
  refine J_iconst (pc := 3) (v := 5) dX10_needs_3 (by decide) ?_
  refine J_csr (pc := 4) (N := mX10_isWithin) dX10_needs_4 ml_X10_177 cf_X10_isWithin cs_X10_isWithin r_X10_isWithin rfl rfl (Nat.le_of_ble_eq_true rfl) (by decide) ?_
  refine J_t1 (bI_t hx) ?_
  refine J_cvv (pc := 7) (N := mX10_needArgument) dX10_needs_7 ml_X10_181 cf_X10_needArgument cv_X10_needArgument r_X10_needArgument_ok rfl rfl (Nat.le_of_ble_eq_true rfl) (by decide) (rv_of (ci := 10) rfl rfl rfl) ?_
  refine J_iconst (pc := 10) (v := 0) dX10_needs_10 (by decide) ?_
  refine J_istore_n (pc := 11) dX10_needs_11 (by decide) rfl ?_
  refine J_iconst (pc := 12) (v := 0) dX10_needs_12 (by decide) ?_
  refine J_istore_n (pc := 13) dX10_needs_13 (by decide) rfl ?_
  show J g mX10_needs 1 [] 14 [some (.ref 0), some (.int x), some (.int 0), some (.int 0)] [] (hs S) sz 0 0 Q
  refine dn_ind (n := dNp d) (P := fun i => J g mX10_needs 1 [] 14 [some (.ref 0), some (.int x), some (.int (sm (fun p => if nI (dPi d p) = x ∧ f (36 + p) = -1 then nI (dPn d p) else 0) i)), some (.int (ix i))] [] (hs S) sz 0 0 Q) ?_ (fun i hi ih => ?_) 0 (Nat.zero_le _)
  · refine J_iload_n (pc := 14) dX10_needs_14 rfl ?_
    refine J_aload_n (pc := 15) dX10_needs_15 rfl ?_
    refine J_getr (pc := 16) dX10_needs_16 kc10 fl_X10_27 rfl ?_
    refine J_getpN (pc := 19) dX10_needs_19 kc0 fl_X10_54 (by first | exact cvn_p2 (by assumption) | rfl) ?_
    refine J_tr hp2 ?_
    refine J_getiN (pc := 22) dX10_needs_22 kc1 fl_X10_188 (by first | exact hou_i10 (by assumption) | rfl) ?_
    refine J_icmp_ge (pc := 25) (tgt := 76) dX10_needs_25 (by decide) (fun c25 => ?_) (fun c25 => absurd (ix_ge hHC.2.2.1) c25)
    refine J_iload_n (pc := 76) dX10_needs_76 rfl ?_
    exact J_iret (pc := 77) rfl rfl rfl dX10_needs_77 (rq hQ rfl rfl)
  · refine J_iload_n (pc := 14) dX10_needs_14 rfl ?_
    refine J_aload_n (pc := 15) dX10_needs_15 rfl ?_
    refine J_getr (pc := 16) dX10_needs_16 kc10 fl_X10_27 rfl ?_
    refine J_getpN (pc := 19) dX10_needs_19 kc0 fl_X10_54 (by first | exact cvn_p2 (by assumption) | rfl) ?_
    refine J_tr hp2 ?_
    refine J_getiN (pc := 22) dX10_needs_22 kc1 fl_X10_188 (by first | exact hou_i10 (by assumption) | rfl) ?_
    refine J_icmp_ge (pc := 25) (tgt := 76) dX10_needs_25 (by decide) (fun c25 => absurd c25 (ix_lt hHC.2.2.1 hi (by omega))) (fun c25 => ?_)
    refine J_aload_n (pc := 28) dX10_needs_28 rfl ?_
    refine J_getr (pc := 29) dX10_needs_29 kc10 fl_X10_27 rfl ?_
    refine J_getpN (pc := 32) dX10_needs_32 kc0 fl_X10_54 (by first | exact cvn_p2 (by assumption) | rfl) ?_
    refine J_tr hp2 ?_
    refine J_getrN (pc := 35) dX10_needs_35 kc1 fl_X10_239 (by first | exact hou_r6 (by assumption) | rfl) ?_
    refine J_iload_n (pc := 38) dX10_needs_38 rfl ?_
    refine J_il (pc := 39) dX10_needs_39 (by first | exact hou_a6 (by assumption) | rfl) (by first | with_reducible rfl | assumption | exact ix_nI _ | rfl) ⟨by first | decide | omega, by decide⟩ ?_
    refine J_t1 ((hHC.2.2.2.2.2 _ hi).1) ?_
    refine J_iload_n (pc := 40) dX10_needs_40 rfl ?_
    refine J_icmp_ne (pc := 41) (tgt := 70) dX10_needs_41 (by decide) (fun c41 => ?_) (fun c41 => ?_)
    · rw [sm_0 (F := (fun p => if nI (dPi d p) = x ∧ f (36 + p) = -1 then nI (dPn d p) else 0)) (n := i) (if_neg (fun q => c41 q.1))]
      refine J_iinc (pc := 70) (v := 1) dX10_needs_70 rfl (by decide) rfl ?_
      refine J_goto (pc := 73) (tgt := 14) dX10_needs_73 (by decide) ?_
      exact ih
    · refine J_aload_n (pc := 44) dX10_needs_44 rfl ?_
      refine J_getr (pc := 45) dX10_needs_45 kc10 fl_X10_27 rfl ?_
      refine J_iload_n (pc := 48) dX10_needs_48 rfl ?_
      refine J_t1 (ix_nI i) ?_
      refine J_cnr (pc := 49) (N := mX0_isCured) dX10_needs_49 ml_X10_256 cf_X0_isCured cv_X0_isCured (r_X0_isCured hX hi) rfl rfl (Nat.le_of_ble_eq_true rfl) (by decide) (rv_of (ci := 0) (by first | exact cvn_n (by assumption) | rfl) rfl rfl) ?_
      refine J_ifp_ne (pc := 52) (tgt := 70) dX10_needs_52 (by decide) (fun c52 => ?_) (fun c52 => ?_)
      · rw [sm_0 (F := (fun p => if nI (dPi d p) = x ∧ f (36 + p) = -1 then nI (dPn d p) else 0)) (n := i) (if_neg (fun q => c52 q.2))]
        refine J_iinc (pc := 70) (v := 1) dX10_needs_70 rfl (by decide) rfl ?_
        refine J_goto (pc := 73) (tgt := 14) dX10_needs_73 (by decide) ?_
        exact ih
      · refine J_iload_n (pc := 55) dX10_needs_55 rfl ?_
        refine J_aload_n (pc := 56) dX10_needs_56 rfl ?_
        refine J_getr (pc := 57) dX10_needs_57 kc10 fl_X10_27 rfl ?_
        refine J_getpN (pc := 60) dX10_needs_60 kc0 fl_X10_54 (by first | exact cvn_p2 (by assumption) | rfl) ?_
        refine J_tr hp2 ?_
        refine J_getrN (pc := 63) dX10_needs_63 kc1 fl_X10_242 (by first | exact hou_r7 (by assumption) | rfl) ?_
        refine J_iload_n (pc := 66) dX10_needs_66 rfl ?_
        refine J_il (pc := 67) dX10_needs_67 (by first | exact hou_a7 (by assumption) | rfl) (by first | with_reducible rfl | assumption | exact ix_nI _ | rfl) ⟨by first | decide | omega, by decide⟩ ?_
        refine J_t1 ((hHC.2.2.2.2.2 _ hi).2) ?_
        refine J_iadd (pc := 68) dX10_needs_68 ?_
        refine J_t1 (sm_v (F := (fun p => if nI (dPi d p) = x ∧ f (36 + p) = -1 then nI (dPn d p) else 0)) (n := i) (if_pos ⟨c41, Decidable.not_not.mp c52⟩)) ?_
        refine J_istore_n (pc := 69) dX10_needs_69 (by decide) rfl ?_
        refine J_iinc (pc := 70) (v := 1) dX10_needs_70 rfl (by decide) rfl ?_
        refine J_goto (pc := 73) (tgt := 14) dX10_needs_73 (by decide) ?_
        exact ih
theorem r_X10_strength {g : Gp} {S : Sx} {a b m : Nat} {d : HD} {wv : Nat → Nat × Nat} {f : Row} (hX : CX S 3 16 17 a b d m wv f) {x : Int32} (hx : 0 ≤ x ∧ x ≤ nI (dNs d) - 1) : RW g mX10_strength 6 [.ref 0, .int x] S (some (.int (sm (fun r => if nI (dOw d r) = x then pwN d m wv f r else 0) (dNr d)))) S := by
  refine RW_ofQ ⟨rfl, rfl⟩ (Nat.le_of_ble_eq_true rfl) (fun T sz Q hQ => ?_)
  obtain ⟨hCL, hHL, hLL, hp2, hp3, hHC, hv, hW, hLC, hRC⟩ := id hX
  have n1 : dNs d ≤ 8 := hv.1
  have n2 : dNr d ≤ 10 := hv.2.1
  have n3 : dNp d ≤ 8 := hv.2.2.1
  refine J_aload_n (pc := 0) dX10_strength_0 rfl ?_
  refine J_aload_n (pc := 1) dX10_strength_1 rfl ?_
  refine J_getr (pc := 2) dX10_strength_2 kc10 fl_X10_27 rfl ?_
  refine J_getpN (pc := 5) dX10_strength_5 kc0 fl_X10_54 (by first | exact cvn_p2 (by assumption) | rfl) ?_
  refine J_tr hp2 ?_
  refine J_iload_n (pc := 8) dX10_strength_8 rfl ?_
  refine J_cnr (pc := 9) (N := mX1_hasSister) dX10_strength_9 ml_X10_195 cf_X1_hasSister cv_X1_hasSister (r_X1_hasSister (S := w1 S T) hHL hHC hv) rfl rfl (Nat.le_of_ble_eq_true rfl) (by decide) (rv_of (ci := 1) (by first | exact hou_n (by assumption) | rfl) rfl rfl) ?_
  refine J_t1 (bI_t hx) ?_
  refine J_cvv (pc := 12) (N := mX10_needElement) dX10_strength_12 ml_X10_199 cf_X10_needElement cv_X10_needElement r_X10_needElement_ok rfl rfl (Nat.le_of_ble_eq_true rfl) (by decide) (rv_of (ci := 10) rfl rfl rfl) ?_
  refine J_iconst (pc := 15) (v := 0) dX10_strength_15 (by decide) ?_
  refine J_istore_n (pc := 16) dX10_strength_16 (by decide) rfl ?_
  refine J_iconst (pc := 17) (v := 0) dX10_strength_17 (by decide) ?_
  refine J_istore_n (pc := 18) dX10_strength_18 (by decide) rfl ?_
  show J g mX10_strength 6 [] 19 [some (.ref 0), some (.int x), some (.int 0), some (.int 0)] [] (hs (w1 S T)) sz 0 0 Q
  refine dn_ind (n := dNr d) (P := fun i => ∀ T, J g mX10_strength 6 [] 19 [some (.ref 0), some (.int x), some (.int (sm (fun r => if nI (dOw d r) = x then pwN d m wv f r else 0) i)), some (.int (ix i))] [] (hs (w1 S T)) sz 0 0 Q) ?_ (fun i hi ih => ?_) 0 (Nat.zero_le _) _
  · intro T
    refine J_iload_n (pc := 19) dX10_strength_19 rfl ?_
    refine J_aload_n (pc := 20) dX10_strength_20 rfl ?_
    refine J_getr (pc := 21) dX10_strength_21 kc10 fl_X10_27 rfl ?_
    refine J_getpN (pc := 24) dX10_strength_24 kc0 fl_X10_54 (by first | exact cvn_p2 (by assumption) | rfl) ?_
    refine J_tr hp2 ?_
    refine J_getiN (pc := 27) dX10_strength_27 kc1 fl_X10_136 (by first | exact hou_i9 (by assumption) | rfl) ?_
    refine J_icmp_ge (pc := 30) (tgt := 66) dX10_strength_30 (by decide) (fun c30 => ?_) (fun c30 => absurd (ix_ge hHC.2.1) c30)
    refine J_iload_n (pc := 66) dX10_strength_66 rfl ?_
    exact J_iret (pc := 67) rfl rfl rfl dX10_strength_67 (rqw hQ rfl rfl)
  · intro T
    refine J_iload_n (pc := 19) dX10_strength_19 rfl ?_
    refine J_aload_n (pc := 20) dX10_strength_20 rfl ?_
    refine J_getr (pc := 21) dX10_strength_21 kc10 fl_X10_27 rfl ?_
    refine J_getpN (pc := 24) dX10_strength_24 kc0 fl_X10_54 (by first | exact cvn_p2 (by assumption) | rfl) ?_
    refine J_tr hp2 ?_
    refine J_getiN (pc := 27) dX10_strength_27 kc1 fl_X10_136 (by first | exact hou_i9 (by assumption) | rfl) ?_
    refine J_icmp_ge (pc := 30) (tgt := 66) dX10_strength_30 (by decide) (fun c30 => absurd c30 (ix_lt hHC.2.1 hi (by omega))) (fun c30 => ?_)
    refine J_aload_n (pc := 33) dX10_strength_33 rfl ?_
    refine J_getr (pc := 34) dX10_strength_34 kc10 fl_X10_27 rfl ?_
    refine J_getpN (pc := 37) dX10_strength_37 kc0 fl_X10_54 (by first | exact cvn_p2 (by assumption) | rfl) ?_
    refine J_tr hp2 ?_
    refine J_getrN (pc := 40) dX10_strength_40 kc1 fl_X10_218 (by first | exact hou_r3 (by assumption) | rfl) ?_
    refine J_iload_n (pc := 43) dX10_strength_43 rfl ?_
    refine J_il (pc := 44) dX10_strength_44 (by first | exact hou_a3 (by assumption) | rfl) (by first | with_reducible rfl | assumption | exact ix_nI _ | rfl) ⟨by first | decide | omega, by decide⟩ ?_
    refine J_t1 ((hHC.2.2.2.2.1 _ hi).1) ?_
    refine J_iload_n (pc := 45) dX10_strength_45 rfl ?_
    refine J_icmp_ne (pc := 46) (tgt := 60) dX10_strength_46 (by decide) (fun c46 => ?_) (fun c46 => ?_)
    · rw [sm_0 (F := (fun r => if nI (dOw d r) = x then pwN d m wv f r else 0)) (n := i) (if_neg c46)]
      refine J_iinc (pc := 60) (v := 1) dX10_strength_60 rfl (by decide) rfl ?_
      refine J_goto (pc := 63) (tgt := 19) dX10_strength_63 (by decide) ?_
      exact ih T
    · refine J_iload_n (pc := 49) dX10_strength_49 rfl ?_
      refine J_aload_n (pc := 50) dX10_strength_50 rfl ?_
      refine J_getr (pc := 51) dX10_strength_51 kc10 fl_X10_27 rfl ?_
      refine J_iload_n (pc := 54) dX10_strength_54 rfl ?_
      refine J_t1 (ix_nI i) ?_
      refine J_cnw (pc := 55) (N := mX0_powerOf) dX10_strength_55 ml_X10_230 cf_X0_powerOf cv_X0_powerOf (r_X0_powerOf hX hi) rfl rfl (Nat.le_of_ble_eq_true rfl) (by decide) (rv_of (ci := 0) (by first | exact cvn_n (by assumption) | rfl) rfl rfl) ?_
      intro T
      refine J_iadd (pc := 58) dX10_strength_58 ?_
      refine J_t1 (sm_v (F := (fun r => if nI (dOw d r) = x then pwN d m wv f r else 0)) (n := i) (if_pos c46)) ?_
      refine J_istore_n (pc := 59) dX10_strength_59 (by decide) rfl ?_
      refine J_iinc (pc := 60) (v := 1) dX10_strength_60 rfl (by decide) rfl ?_
      refine J_goto (pc := 63) (tgt := 19) dX10_strength_63 (by decide) ?_
      exact ih T
theorem r_X10_has {g : Gp} {S : Sx} {p q v w : Int32} (ha : p = 0 ∨ p = 1) (hb : q = 0 ∨ q = 1) : RT g mX10_has 0 [.int p, .int q, .int v, .int w] S (some (.int (hbv p q v w))) S := by
  refine RT_ofQ ⟨rfl, rfl⟩ (Nat.le_of_ble_eq_true rfl) (fun sz Q hQ => ?_)
  refine J_iload_n (pc := 0) dX10_has_0 rfl ?_
  refine J_iload_n (pc := 1) dX10_has_1 rfl ?_
  refine J_icmp_ne (pc := 2) (tgt := 15) dX10_has_2 (by decide) (fun c2 => ?_) (fun c2 => ?_)
  · refine J_iload_n (pc := 15) dX10_has_15 rfl ?_
    refine J_iconst (pc := 16) (v := 1) dX10_has_16 (by decide) ?_
    refine J_icmp_ne (pc := 17) (tgt := 24) dX10_has_17 (by decide) (fun c17 => ?_) (fun c17 => ?_)
    · refine J_iconst (pc := 24) (v := -1) dX10_has_24 (by decide) ?_
      exact J_iret (pc := 25) rfl rfl rfl dX10_has_25 (rq hQ (by unfold hbv; rcases ha with rfl | rfl <;> rcases hb with rfl | rfl <;> first | rfl | exact absurd rfl c2 | exact absurd c2 (by decide) | exact absurd rfl c6 | exact absurd c6 (by decide) | exact absurd rfl c17 | exact absurd c17 (by decide)) rfl)
    · refine J_iload_n (pc := 20) dX10_has_20 rfl ?_
      refine J_goto (pc := 21) (tgt := 25) dX10_has_21 (by decide) ?_
      exact J_iret (pc := 25) rfl rfl rfl dX10_has_25 (rq hQ (by unfold hbv; rcases ha with rfl | rfl <;> rcases hb with rfl | rfl <;> first | rfl | exact absurd rfl c2 | exact absurd c2 (by decide) | exact absurd rfl c6 | exact absurd c6 (by decide) | exact absurd rfl c17 | exact absurd c17 (by decide)) rfl)
  · refine J_iload_n (pc := 5) dX10_has_5 rfl ?_
    refine J_if_ne (pc := 6) (tgt := 13) dX10_has_6 (by decide) (fun c6 => ?_) (fun c6 => ?_)
    · refine J_iconst (pc := 13) (v := 0) dX10_has_13 (by decide) ?_
      exact J_iret (pc := 14) rfl rfl rfl dX10_has_14 (rq hQ (by unfold hbv; rcases ha with rfl | rfl <;> rcases hb with rfl | rfl <;> first | rfl | exact absurd rfl c2 | exact absurd c2 (by decide) | exact absurd rfl c6 | exact absurd c6 (by decide) | exact absurd rfl c17 | exact absurd c17 (by decide)) rfl)
    · refine J_iload_n (pc := 9) dX10_has_9 rfl ?_
      refine J_goto (pc := 10) (tgt := 14) dX10_has_10 (by decide) ?_
      exact J_iret (pc := 14) rfl rfl rfl dX10_has_14 (rq hQ (by unfold hbv; rcases ha with rfl | rfl <;> rcases hb with rfl | rfl <;> first | rfl | exact absurd rfl c2 | exact absurd c2 (by decide) | exact absurd rfl c6 | exact absurd c6 (by decide) | exact absurd rfl c17 | exact absurd c17 (by decide)) rfl)
theorem z1m {p : Int32} (h : p = 0 ∨ p = 1) : 1 - p = 0 ∨ 1 - p = 1 := by rcases h with rfl | rfl <;> decide
theorem r_X10_isRest {g : Gp} {S : Sx} {p q v w : Int32} (ha : p = 0 ∨ p = 1) (hb : q = 0 ∨ q = 1) : RT g mX10_isRest 1 [.int p, .int q, .int v, .int w] S (some (.int (bI (decide (hbv (1 - p) q v w ≤ hbv p q v w ∧ hbv (1 - q) p v w ≤ hbv q p v w))))) S := by
  refine RT_ofQ ⟨rfl, rfl⟩ (Nat.le_of_ble_eq_true rfl) (fun sz Q hQ => ?_)
  refine J_iload_n (pc := 0) dX10_isRest_0 rfl ?_
  refine J_iload_n (pc := 1) dX10_isRest_1 rfl ?_
  refine J_iload_n (pc := 2) dX10_isRest_2 rfl ?_
  refine J_iload_n (pc := 3) dX10_isRest_3 rfl ?_
  refine J_csr (pc := 4) (N := mX10_has) dX10_isRest_4 ml_X10_316 cf_X10_has cs_X10_has (r_X10_has ha hb) rfl rfl (Nat.le_of_ble_eq_true rfl) (by decide) ?_
  refine J_iconst (pc := 7) (v := 1) dX10_isRest_7 (by decide) ?_
  refine J_iload_n (pc := 8) dX10_isRest_8 rfl ?_
  refine J_isub (pc := 9) dX10_isRest_9 ?_
  refine J_iload_n (pc := 10) dX10_isRest_10 rfl ?_
  refine J_iload_n (pc := 11) dX10_isRest_11 rfl ?_
  refine J_iload_n (pc := 12) dX10_isRest_12 rfl ?_
  refine J_csr (pc := 13) (N := mX10_has) dX10_isRest_13 ml_X10_316 cf_X10_has cs_X10_has (r_X10_has (z1m ha) hb) rfl rfl (Nat.le_of_ble_eq_true rfl) (by decide) ?_
  refine J_icmp_lt (pc := 16) (tgt := 42) dX10_isRest_16 (by decide) (fun c16 => ?_) (fun c16 => ?_)
  · refine J_iconst (pc := 42) (v := 0) dX10_isRest_42 (by decide) ?_
    exact J_iret (pc := 43) rfl rfl rfl dX10_isRest_43 (rq hQ (by first | exact Eq.symm (bI_t ⟨Int32.not_lt.mp c16, Int32.not_lt.mp c35⟩) | exact Eq.symm (bI_f (fun z => Int32.not_le.mpr c16 z.1)) | exact Eq.symm (bI_f (fun z => Int32.not_le.mpr c35 z.2))) rfl)
  · refine J_iload_n (pc := 19) dX10_isRest_19 rfl ?_
    refine J_iload_n (pc := 20) dX10_isRest_20 rfl ?_
    refine J_iload_n (pc := 21) dX10_isRest_21 rfl ?_
    refine J_iload_n (pc := 22) dX10_isRest_22 rfl ?_
    refine J_csr (pc := 23) (N := mX10_has) dX10_isRest_23 ml_X10_316 cf_X10_has cs_X10_has (r_X10_has hb ha) rfl rfl (Nat.le_of_ble_eq_true rfl) (by decide) ?_
    refine J_iconst (pc := 26) (v := 1) dX10_isRest_26 (by decide) ?_
    refine J_iload_n (pc := 27) dX10_isRest_27 rfl ?_
    refine J_isub (pc := 28) dX10_isRest_28 ?_
    refine J_iload_n (pc := 29) dX10_isRest_29 rfl ?_
    refine J_iload_n (pc := 30) dX10_isRest_30 rfl ?_
    refine J_iload_n (pc := 31) dX10_isRest_31 rfl ?_
    refine J_csr (pc := 32) (N := mX10_has) dX10_isRest_32 ml_X10_316 cf_X10_has cs_X10_has (r_X10_has (z1m hb) ha) rfl rfl (Nat.le_of_ble_eq_true rfl) (by decide) ?_
    refine J_icmp_lt (pc := 35) (tgt := 42) dX10_isRest_35 (by decide) (fun c35 => ?_) (fun c35 => ?_)
    · refine J_iconst (pc := 42) (v := 0) dX10_isRest_42 (by decide) ?_
      exact J_iret (pc := 43) rfl rfl rfl dX10_isRest_43 (rq hQ (by first | exact Eq.symm (bI_t ⟨Int32.not_lt.mp c16, Int32.not_lt.mp c35⟩) | exact Eq.symm (bI_f (fun z => Int32.not_le.mpr c16 z.1)) | exact Eq.symm (bI_f (fun z => Int32.not_le.mpr c35 z.2))) rfl)
    · refine J_iconst (pc := 38) (v := 1) dX10_isRest_38 (by decide) ?_
      refine J_goto (pc := 39) (tgt := 43) dX10_isRest_39 (by decide) ?_
      exact J_iret (pc := 43) rfl rfl rfl dX10_isRest_43 (rq hQ (by first | exact Eq.symm (bI_t ⟨Int32.not_lt.mp c16, Int32.not_lt.mp c35⟩) | exact Eq.symm (bI_f (fun z => Int32.not_le.mpr c16 z.1)) | exact Eq.symm (bI_f (fun z => Int32.not_le.mpr c35 z.2))) rfl)
theorem ix01 {i : Nat} (h : i < 2) : ix i = 0 ∨ ix i = 1 := by
  rcases (show i = 0 ∨ i = 1 by omega) with rfl | rfl
  · exact Or.inl rfl
  · exact Or.inr rfl
theorem ixle {i : Nat} (h : i < 2) : ¬ 1 < ix i := by rcases ix01 h with e | e <;> rw [e] <;> decide
theorem r_X10_tempted {g : Gp} {S : Sx} {v w x : Int32} (hv : (0 ≤ v ∧ v ≤ 99) ∧ (0 ≤ w ∧ w ≤ 99) ∧ (0 ≤ x ∧ x ≤ 2)) : RT g mX10_tempted 2 [.ref 0, .int v, .int w, .int x] S (some (.int (if x = 0 then (tOut v w 2).1 else if x = 1 then (tOut v w 2).2.1 else (tOut v w 2).2.2))) S := by
  refine RT_ofQ ⟨rfl, rfl⟩ (Nat.le_of_ble_eq_true rfl) (fun sz Q hQ => ?_)
  refine J_aload_n (pc := 0) dX10_tempted_0 rfl ?_
  refine J_iload_n (pc := 1) dX10_tempted_1 rfl ?_
  refine J_iconst (pc := 2) (v := 0) dX10_tempted_2 (by decide) ?_
  refine J_bipush (pc := 3) (v := 99) dX10_tempted_3 (by decide) ?_
  refine J_csr (pc := 5) (N := mX10_isWithin) dX10_tempted_5 ml_X10_177 cf_X10_isWithin cs_X10_isWithin r_X10_isWithin rfl rfl (Nat.le_of_ble_eq_true rfl) (by decide) ?_
  refine J_ifp_eq (pc := 8) (tgt := 34) dX10_tempted_8 (by decide) (fun c8 => absurd hv.1 c8) (fun c8 => ?_)
  refine J_iload_n (pc := 11) dX10_tempted_11 rfl ?_
  refine J_iconst (pc := 12) (v := 0) dX10_tempted_12 (by decide) ?_
  refine J_bipush (pc := 13) (v := 99) dX10_tempted_13 (by decide) ?_
  refine J_csr (pc := 15) (N := mX10_isWithin) dX10_tempted_15 ml_X10_177 cf_X10_isWithin cs_X10_isWithin r_X10_isWithin rfl rfl (Nat.le_of_ble_eq_true rfl) (by decide) ?_
  refine J_ifp_eq (pc := 18) (tgt := 34) dX10_tempted_18 (by decide) (fun c18 => absurd hv.2.1 c18) (fun c18 => ?_)
  refine J_iload_n (pc := 21) dX10_tempted_21 rfl ?_
  refine J_iconst (pc := 22) (v := 0) dX10_tempted_22 (by decide) ?_
  refine J_iconst (pc := 23) (v := 2) dX10_tempted_23 (by decide) ?_
  refine J_csr (pc := 24) (N := mX10_isWithin) dX10_tempted_24 ml_X10_177 cf_X10_isWithin cs_X10_isWithin r_X10_isWithin rfl rfl (Nat.le_of_ble_eq_true rfl) (by decide) ?_
  refine J_ifp_eq (pc := 27) (tgt := 34) dX10_tempted_27 (by decide) (fun c27 => absurd hv.2.2 c27) (fun c27 => ?_)
  refine J_iconst (pc := 30) (v := 1) dX10_tempted_30 (by decide) ?_
  refine J_goto (pc := 31) (tgt := 35) dX10_tempted_31 (by decide) ?_
  refine J_cvv (pc := 35) (N := mX10_needArgument) dX10_tempted_35 ml_X10_181 cf_X10_needArgument cv_X10_needArgument r_X10_needArgument_ok rfl rfl (Nat.le_of_ble_eq_true rfl) (by decide) (rv_of (ci := 10) rfl rfl rfl) ?_
  refine J_iconst (pc := 38) (v := 0) dX10_tempted_38 (by decide) ?_
  refine J_istore (pc := 39) dX10_tempted_39 (by decide) rfl ?_
  refine J_iconst (pc := 41) (v := -1) dX10_tempted_41 (by decide) ?_
  refine J_istore (pc := 42) dX10_tempted_42 (by decide) rfl ?_
  refine J_iconst (pc := 44) (v := 0) dX10_tempted_44 (by decide) ?_
  refine J_istore (pc := 45) dX10_tempted_45 (by decide) rfl ?_
  refine J_iconst (pc := 47) (v := 0) dX10_tempted_47 (by decide) ?_
  refine J_istore (pc := 48) dX10_tempted_48 (by decide) rfl ?_
  refine dn_ind (n := 2) (P := fun i => ∀ x8 : Option Value, J g mX10_tempted 2 [] 50 [some (.ref 0), some (.int v), some (.int w), some (.int x), some (.int (tOut v w i).1), some (.int (tOut v w i).2.1), some (.int (tOut v w i).2.2), some (.int (ix i)), x8] [] (hs S) sz 0 0 Q) ?_ (fun i hi ih => ?_) 0 (Nat.zero_le _) none
  · intro x8
    by_cases h0 : x = 0
    · subst h0
      refine J_iload (pc := 50) dX10_tempted_50 rfl ?_
      refine J_iconst (pc := 52) (v := 1) dX10_tempted_52 (by decide) ?_
      refine J_icmp_gt (pc := 53) (tgt := 128) dX10_tempted_53 (by decide) (fun c53 => ?_) (fun c53 => absurd (by decide) c53)
      refine J_iload_n (pc := 128) dX10_tempted_128 rfl ?_
      refine J_lookup (pc := 129) (off := 27) (tgt := 156) dX10_tempted_129 (by decide) (by decide) (by decide) ?_
      refine J_iload (pc := 156) dX10_tempted_156 rfl ?_
      exact J_iret (pc := 158) rfl rfl rfl dX10_tempted_158 (rq hQ (if_pos rfl).symm rfl)
    by_cases h1 : x = 1
    · subst h1
      refine J_iload (pc := 50) dX10_tempted_50 rfl ?_
      refine J_iconst (pc := 52) (v := 1) dX10_tempted_52 (by decide) ?_
      refine J_icmp_gt (pc := 53) (tgt := 128) dX10_tempted_53 (by decide) (fun c53 => ?_) (fun c53 => absurd (by decide) c53)
      refine J_iload_n (pc := 128) dX10_tempted_128 rfl ?_
      refine J_lookup (pc := 129) (off := 30) (tgt := 159) dX10_tempted_129 (by decide) (by decide) (by decide) ?_
      refine J_iload (pc := 159) dX10_tempted_159 rfl ?_
      exact J_iret (pc := 161) rfl rfl rfl dX10_tempted_161 (rq hQ rfl rfl)
    refine J_iload (pc := 50) dX10_tempted_50 rfl ?_
    refine J_iconst (pc := 52) (v := 1) dX10_tempted_52 (by decide) ?_
    refine J_icmp_gt (pc := 53) (tgt := 128) dX10_tempted_53 (by decide) (fun c53 => ?_) (fun c53 => absurd (by decide) c53)
    refine J_iload_n (pc := 128) dX10_tempted_128 rfl ?_
    refine J_lookup (pc := 129) (off := 33) (tgt := 162) dX10_tempted_129 (by decide) (lk01 h0 h1) (by decide) ?_
    refine J_iload (pc := 162) dX10_tempted_162 rfl ?_
    exact J_iret (pc := 164) rfl rfl rfl dX10_tempted_164 (rq hQ (by rw [if_neg h0, if_neg h1]) rfl)
  · intro x8
    refine J_iload (pc := 50) dX10_tempted_50 rfl ?_
    refine J_iconst (pc := 52) (v := 1) dX10_tempted_52 (by decide) ?_
    refine J_icmp_gt (pc := 53) (tgt := 128) dX10_tempted_53 (by decide) (fun c53 => absurd c53 (ixle hi)) (fun c53 => ?_)
    refine J_iconst (pc := 56) (v := 0) dX10_tempted_56 (by decide) ?_
    refine J_istore (pc := 57) dX10_tempted_57 (by decide) rfl ?_
    refine dn_ind (n := 2) (P := fun j => J g mX10_tempted 2 [] 59 [some (.ref 0), some (.int v), some (.int w), some (.int x), some (.int (tIn v w i (tOut v w i) j).1), some (.int (tIn v w i (tOut v w i) j).2.1), some (.int (tIn v w i (tOut v w i) j).2.2), some (.int (ix i)), some (.int (ix j))] [] (hs S) sz 0 0 Q) ?_ (fun j hj ihj => ?_) 0 (Nat.zero_le _)
    · refine J_iload (pc := 59) dX10_tempted_59 rfl ?_
      refine J_iconst (pc := 61) (v := 1) dX10_tempted_61 (by decide) ?_
      refine J_icmp_gt (pc := 62) (tgt := 122) dX10_tempted_62 (by decide) (fun c62 => ?_) (fun c62 => absurd (by decide) c62)
      refine J_iinc (pc := 122) (v := 1) dX10_tempted_122 rfl (by decide) rfl ?_
      refine J_goto (pc := 125) (tgt := 50) dX10_tempted_125 (by decide) ?_
      exact ih _
    · refine J_iload (pc := 59) dX10_tempted_59 rfl ?_
      refine J_iconst (pc := 61) (v := 1) dX10_tempted_61 (by decide) ?_
      refine J_icmp_gt (pc := 62) (tgt := 122) dX10_tempted_62 (by decide) (fun c62 => absurd c62 (ixle hj)) (fun c62 => ?_)
      refine J_iload (pc := 65) dX10_tempted_65 rfl ?_
      refine J_iload (pc := 67) dX10_tempted_67 rfl ?_
      refine J_iload_n (pc := 69) dX10_tempted_69 rfl ?_
      refine J_iload_n (pc := 70) dX10_tempted_70 rfl ?_
      refine J_csr (pc := 71) (N := mX10_isRest) dX10_tempted_71 ml_X10_312 cf_X10_isRest cs_X10_isRest (r_X10_isRest (ix01 hi) (ix01 hj)) rfl rfl (Nat.le_of_ble_eq_true rfl) (by decide) ?_
      refine J_ifp_eq (pc := 74) (tgt := 116) dX10_tempted_74 (by decide) (fun c74 => ?_) (fun c74 => ?_)
      · have e : tIn v w i (tOut v w i) (j + 1) = (tIn v w i (tOut v w i) j) := if_neg c74
        rw [e] at ihj
        refine J_iinc (pc := 116) (v := 1) dX10_tempted_116 rfl (by decide) rfl ?_
        refine J_goto (pc := 119) (tgt := 59) dX10_tempted_119 (by decide) ?_
        exact ihj
      · have e : tIn v w i (tOut v w i) (j + 1) = ((tIn v w i (tOut v w i) j).1 + 1, (if (tIn v w i (tOut v w i) j).1 = 0 then 10 * ix i + ix j else (tIn v w i (tOut v w i) j).2.1), (if (tIn v w i (tOut v w i) j).1 = 0 then hbv (ix i) (ix j) v w + hbv (ix j) (ix i) v w else (tIn v w i (tOut v w i) j).2.2)) := if_pos c74
        rw [e] at ihj
        refine J_iload (pc := 77) dX10_tempted_77 rfl ?_
        refine J_if_ne (pc := 79) (tgt := 113) dX10_tempted_79 (by decide) (fun c79 => ?_) (fun c79 => ?_)
        · rw [if_neg c79, if_neg c79] at ihj
          refine J_iinc (pc := 113) (v := 1) dX10_tempted_113 rfl (by decide) rfl ?_
          refine J_iinc (pc := 116) (v := 1) dX10_tempted_116 rfl (by decide) rfl ?_
          refine J_goto (pc := 119) (tgt := 59) dX10_tempted_119 (by decide) ?_
          exact ihj
        · rw [if_pos c79, if_pos c79] at ihj
          refine J_bipush (pc := 82) (v := 10) dX10_tempted_82 (by decide) ?_
          refine J_iload (pc := 84) dX10_tempted_84 rfl ?_
          refine J_imul (pc := 86) dX10_tempted_86 ?_
          refine J_iload (pc := 87) dX10_tempted_87 rfl ?_
          refine J_iadd (pc := 89) dX10_tempted_89 ?_
          refine J_istore (pc := 90) dX10_tempted_90 (by decide) rfl ?_
          refine J_iload (pc := 92) dX10_tempted_92 rfl ?_
          refine J_iload (pc := 94) dX10_tempted_94 rfl ?_
          refine J_iload_n (pc := 96) dX10_tempted_96 rfl ?_
          refine J_iload_n (pc := 97) dX10_tempted_97 rfl ?_
          refine J_csr (pc := 98) (N := mX10_has) dX10_tempted_98 ml_X10_316 cf_X10_has cs_X10_has (r_X10_has (ix01 hi) (ix01 hj)) rfl rfl (Nat.le_of_ble_eq_true rfl) (by decide) ?_
          refine J_iload (pc := 101) dX10_tempted_101 rfl ?_
          refine J_iload (pc := 103) dX10_tempted_103 rfl ?_
          refine J_iload_n (pc := 105) dX10_tempted_105 rfl ?_
          refine J_iload_n (pc := 106) dX10_tempted_106 rfl ?_
          refine J_csr (pc := 107) (N := mX10_has) dX10_tempted_107 ml_X10_316 cf_X10_has cs_X10_has (r_X10_has (ix01 hj) (ix01 hi)) rfl rfl (Nat.le_of_ble_eq_true rfl) (by decide) ?_
          refine J_iadd (pc := 110) dX10_tempted_110 ?_
          refine J_istore (pc := 111) dX10_tempted_111 (by decide) rfl ?_
          refine J_iinc (pc := 113) (v := 1) dX10_tempted_113 rfl (by decide) rfl ?_
          refine J_iinc (pc := 116) (v := 1) dX10_tempted_116 rfl (by decide) rfl ?_
          refine J_goto (pc := 119) (tgt := 59) dX10_tempted_119 (by decide) ?_
          exact ihj
def gvC (d : HD) (y q : Int32) : Int32 := sm (fun p => if y >>> (ix p &&& 31) &&& 1 = 1 then (if q < nI (dPn d p) then q else nI (dPn d p)) else 0) (dNp d)
theorem a1_01 (x : Int32) : ¬ x &&& 1 = 0 ↔ x &&& 1 = 1 := by
  rw [bt_a1]
  cases bt x 0 <;> decide
theorem r_X10_almsUpTo {g : Gp} {S : Sx} {a b m : Nat} {d : HD} {wv : Nat → Nat × Nat} {f : Row} (hX : CX S 3 16 17 a b d m wv f) {q y : Int32} : RT g mX10_almsUpTo 1 [.ref 0, .int q, .int y] S (some (.int (gvC d y q))) S := by
  refine RT_ofQ ⟨rfl, rfl⟩ (Nat.le_of_ble_eq_true rfl) (fun sz Q hQ => ?_)
  obtain ⟨hCL, hHL, hLL, hp2, hp3, hHC, hv, hW, hLC, hRC⟩ := id hX
  have n1 : dNs d ≤ 8 := hv.1
  have n2 : dNr d ≤ 10 := hv.2.1
  have n3 : dNp d ≤ 8 := hv.2.2.1
  refine J_iconst (pc := 0) (v := 0) dX10_almsUpTo_0 (by decide) ?_
  refine J_istore_n (pc := 1) dX10_almsUpTo_1 (by decide) rfl ?_
  refine J_iconst (pc := 2) (v := 0) dX10_almsUpTo_2 (by decide) ?_
  refine J_istore (pc := 3) dX10_almsUpTo_3 (by decide) rfl ?_
  show J g mX10_almsUpTo 1 [] 5 [some (.ref 0), some (.int q), some (.int y), some (.int 0), some (.int 0)] [] (hs S) sz 0 0 Q
  refine dn_ind (n := dNp d) (P := fun i => J g mX10_almsUpTo 1 [] 5 [some (.ref 0), some (.int q), some (.int y), some (.int (sm (fun p => if y >>> (ix p &&& 31) &&& 1 = 1 then (if q < nI (dPn d p) then q else nI (dPn d p)) else 0) i)), some (.int (ix i))] [] (hs S) sz 0 0 Q) ?_ (fun i hi ih => ?_) 0 (Nat.zero_le _)
  · refine J_iload (pc := 5) dX10_almsUpTo_5 rfl ?_
    refine J_aload_n (pc := 7) dX10_almsUpTo_7 rfl ?_
    refine J_getr (pc := 8) dX10_almsUpTo_8 kc10 fl_X10_27 rfl ?_
    refine J_getpN (pc := 11) dX10_almsUpTo_11 kc0 fl_X10_54 (by first | exact cvn_p2 (by assumption) | rfl) ?_
    refine J_tr hp2 ?_
    refine J_getiN (pc := 14) dX10_almsUpTo_14 kc1 fl_X10_188 (by first | exact hou_i10 (by assumption) | rfl) ?_
    refine J_icmp_ge (pc := 17) (tgt := 55) dX10_almsUpTo_17 (by decide) (fun c17 => ?_) (fun c17 => absurd (ix_ge hHC.2.2.1) c17)
    refine J_iload_n (pc := 55) dX10_almsUpTo_55 rfl ?_
    exact J_iret (pc := 56) rfl rfl rfl dX10_almsUpTo_56 (rq hQ rfl rfl)
  · refine J_iload (pc := 5) dX10_almsUpTo_5 rfl ?_
    refine J_aload_n (pc := 7) dX10_almsUpTo_7 rfl ?_
    refine J_getr (pc := 8) dX10_almsUpTo_8 kc10 fl_X10_27 rfl ?_
    refine J_getpN (pc := 11) dX10_almsUpTo_11 kc0 fl_X10_54 (by first | exact cvn_p2 (by assumption) | rfl) ?_
    refine J_tr hp2 ?_
    refine J_getiN (pc := 14) dX10_almsUpTo_14 kc1 fl_X10_188 (by first | exact hou_i10 (by assumption) | rfl) ?_
    refine J_icmp_ge (pc := 17) (tgt := 55) dX10_almsUpTo_17 (by decide) (fun c17 => absurd c17 (ix_lt hHC.2.2.1 hi (by omega))) (fun c17 => ?_)
    refine J_iload_n (pc := 20) dX10_almsUpTo_20 rfl ?_
    refine J_iload (pc := 21) dX10_almsUpTo_21 rfl ?_
    refine J_ishr (pc := 23) dX10_almsUpTo_23 ?_
    refine J_iconst (pc := 24) (v := 1) dX10_almsUpTo_24 (by decide) ?_
    refine J_iand (pc := 25) dX10_almsUpTo_25 ?_
    refine J_if_eq (pc := 26) (tgt := 49) dX10_almsUpTo_26 (by decide) (fun c26 => ?_) (fun c26 => ?_)
    · rw [sm_0 (F := (fun p => if y >>> (ix p &&& 31) &&& 1 = 1 then (if q < nI (dPn d p) then q else nI (dPn d p)) else 0)) (n := i) (if_neg (fun z => by rw [c26] at z; exact absurd z (by decide)))]
      refine J_iinc (pc := 49) (v := 1) dX10_almsUpTo_49 rfl (by decide) rfl ?_
      refine J_goto (pc := 52) (tgt := 5) dX10_almsUpTo_52 (by decide) ?_
      exact ih
    · refine J_iload_n (pc := 29) dX10_almsUpTo_29 rfl ?_
      refine J_iload_n (pc := 30) dX10_almsUpTo_30 rfl ?_
      refine J_aload_n (pc := 31) dX10_almsUpTo_31 rfl ?_
      refine J_getr (pc := 32) dX10_almsUpTo_32 kc10 fl_X10_27 rfl ?_
      refine J_getpN (pc := 35) dX10_almsUpTo_35 kc0 fl_X10_54 (by first | exact cvn_p2 (by assumption) | rfl) ?_
      refine J_tr hp2 ?_
      refine J_getrN (pc := 38) dX10_almsUpTo_38 kc1 fl_X10_242 (by first | exact hou_r7 (by assumption) | rfl) ?_
      refine J_iload (pc := 41) dX10_almsUpTo_41 rfl ?_
      refine J_il (pc := 43) dX10_almsUpTo_43 (by first | exact hou_a7 (by assumption) | rfl) (by first | with_reducible rfl | assumption | exact ix_nI _ | rfl) ⟨by first | decide | omega, by decide⟩ ?_
      refine J_t1 ((hHC.2.2.2.2.2 _ hi).2) ?_
      refine J_mmin (pc := 44) dX10_almsUpTo_44 ml_X10_323 (Nat.le_of_ble_eq_true rfl) ?_
      refine J_t1 (min_lt _ _) ?_
      refine J_iadd (pc := 47) dX10_almsUpTo_47 ?_
      refine J_t1 (sm_v (F := (fun p => if y >>> (ix p &&& 31) &&& 1 = 1 then (if q < nI (dPn d p) then q else nI (dPn d p)) else 0)) (n := i) (if_pos ((a1_01 _).mp c26))) ?_
      refine J_istore_n (pc := 48) dX10_almsUpTo_48 (by decide) rfl ?_
      refine J_iinc (pc := 49) (v := 1) dX10_almsUpTo_49 rfl (by decide) rfl ?_
      refine J_goto (pc := 52) (tgt := 5) dX10_almsUpTo_52 (by decide) ?_
      exact ih
theorem r_X10_alms {g : Gp} {S : Sx} {a b m : Nat} {d : HD} {wv : Nat → Nat × Nat} {f : Row} (hX : CX S 3 16 17 a b d m wv f) {p : Nat} {y z : Int32} (hp : p < dNp d) (hv2 : (0 ≤ y ∧ y ≤ 1 <<< (nI (dNp d) &&& 31) - 1) ∧ (0 ≤ z ∧ z ≤ 999)) : RT g mX10_alms 2 [.ref 0, .int (nI p), .int y, .int z] S (some (.int (if y >>> (nI p &&& 31) &&& 1 = 1 then (if nI (almB (fun k => gvC d y (nI k)) z 99) < nI (dPn d p) then nI (almB (fun k => gvC d y (nI k)) z 99) else nI (dPn d p)) else 0))) S := by
  refine RT_ofQ ⟨rfl, rfl⟩ (Nat.le_of_ble_eq_true rfl) (fun sz Q hQ => ?_)
  obtain ⟨hCL, hHL, hLL, hp2, hp3, hHC, hv, hW, hLC, hRC⟩ := id hX
  have n1 : dNs d ≤ 8 := hv.1
  have n2 : dNr d ≤ 10 := hv.2.1
  have n3 : dNp d ≤ 8 := hv.2.2.1
  refine J_aload_n (pc := 0) dX10_alms_0 rfl ?_
  refine J_aload_n (pc := 1) dX10_alms_1 rfl ?_
  refine J_getr (pc := 2) dX10_alms_2 kc10 fl_X10_27 rfl ?_
  refine J_getpN (pc := 5) dX10_alms_5 kc0 fl_X10_54 (by first | exact cvn_p2 (by assumption) | rfl) ?_
  refine J_tr hp2 ?_
  refine J_iload_n (pc := 8) dX10_alms_8 rfl ?_
  refine J_cnr (pc := 9) (N := mX1_hasPilgrim) dX10_alms_9 ml_X10_236 cf_X1_hasPilgrim cv_X1_hasPilgrim (r_X1_hasPilgrim hHL hHC hv) rfl rfl (Nat.le_of_ble_eq_true rfl) (by decide) (rv_of (ci := 1) (by first | exact hou_n (by assumption) | rfl) rfl rfl) ?_
  refine J_t1 (bI_t (in_nI hp (by omega))) ?_
  refine J_cvv (pc := 12) (N := mX10_needElement) dX10_alms_12 ml_X10_199 cf_X10_needElement cv_X10_needElement r_X10_needElement_ok rfl rfl (Nat.le_of_ble_eq_true rfl) (by decide) (rv_of (ci := 10) rfl rfl rfl) ?_
  refine J_aload_n (pc := 15) dX10_alms_15 rfl ?_
  refine J_iload_n (pc := 16) dX10_alms_16 rfl ?_
  refine J_iconst (pc := 17) (v := 0) dX10_alms_17 (by decide) ?_
  refine J_iconst (pc := 18) (v := 1) dX10_alms_18 (by decide) ?_
  refine J_aload_n (pc := 19) dX10_alms_19 rfl ?_
  refine J_getr (pc := 20) dX10_alms_20 kc10 fl_X10_27 rfl ?_
  refine J_getpN (pc := 23) dX10_alms_23 kc0 fl_X10_54 (by first | exact cvn_p2 (by assumption) | rfl) ?_
  refine J_tr hp2 ?_
  refine J_getiN (pc := 26) dX10_alms_26 kc1 fl_X10_188 (by first | exact hou_i10 (by assumption) | rfl) ?_
  refine J_t1 (hHC.2.2.1) ?_
  refine J_ishl (pc := 29) dX10_alms_29 ?_
  refine J_iconst (pc := 30) (v := 1) dX10_alms_30 (by decide) ?_
  refine J_isub (pc := 31) dX10_alms_31 ?_
  refine J_csr (pc := 32) (N := mX10_isWithin) dX10_alms_32 ml_X10_177 cf_X10_isWithin cs_X10_isWithin r_X10_isWithin rfl rfl (Nat.le_of_ble_eq_true rfl) (by decide) ?_
  refine J_ifp_eq (pc := 35) (tgt := 53) dX10_alms_35 (by decide) (fun c35 => absurd hv2.1 c35) (fun c35 => ?_)
  refine J_iload_n (pc := 38) dX10_alms_38 rfl ?_
  refine J_iconst (pc := 39) (v := 0) dX10_alms_39 (by decide) ?_
  refine J_sipush (pc := 40) (v := 999) dX10_alms_40 (by decide) ?_
  refine J_csr (pc := 43) (N := mX10_isWithin) dX10_alms_43 ml_X10_177 cf_X10_isWithin cs_X10_isWithin r_X10_isWithin rfl rfl (Nat.le_of_ble_eq_true rfl) (by decide) ?_
  refine J_ifp_eq (pc := 46) (tgt := 53) dX10_alms_46 (by decide) (fun c46 => absurd hv2.2 c46) (fun c46 => ?_)
  refine J_iconst (pc := 49) (v := 1) dX10_alms_49 (by decide) ?_
  refine J_goto (pc := 50) (tgt := 54) dX10_alms_50 (by decide) ?_
  refine J_cvv (pc := 54) (N := mX10_needArgument) dX10_alms_54 ml_X10_181 cf_X10_needArgument cv_X10_needArgument r_X10_needArgument_ok rfl rfl (Nat.le_of_ble_eq_true rfl) (by decide) (rv_of (ci := 10) rfl rfl rfl) ?_
  refine J_iload_n (pc := 57) dX10_alms_57 rfl ?_
  refine J_iload_n (pc := 58) dX10_alms_58 rfl ?_
  refine J_ishr (pc := 59) dX10_alms_59 ?_
  refine J_iconst (pc := 60) (v := 1) dX10_alms_60 (by decide) ?_
  refine J_iand (pc := 61) dX10_alms_61 ?_
  refine J_if_ne (pc := 62) (tgt := 67) dX10_alms_62 (by decide) (fun c62 => ?_) (fun c62 => ?_)
  · refine J_iconst (pc := 67) (v := 0) dX10_alms_67 (by decide) ?_
    refine J_istore (pc := 68) dX10_alms_68 (by decide) rfl ?_
    have fin : ∀ k, almB (fun k => gvC d y (nI k)) z 99 = k → J g mX10_alms 2 [] 96 [some (.ref 0), some (.int (nI p)), some (.int y), some (.int z), some (.int (ix k))] [] (hs S) sz 0 0 Q := by
      intro k hk
      rw [hk, if_pos ((a1_01 _).mp c62)] at hQ
      rw [ix_nI]
      refine J_iload (pc := 96) dX10_alms_96 rfl ?_
      refine J_aload_n (pc := 98) dX10_alms_98 rfl ?_
      refine J_getr (pc := 99) dX10_alms_99 kc10 fl_X10_27 rfl ?_
      refine J_getpN (pc := 102) dX10_alms_102 kc0 fl_X10_54 (by first | exact cvn_p2 (by assumption) | rfl) ?_
      refine J_tr hp2 ?_
      refine J_getrN (pc := 105) dX10_alms_105 kc1 fl_X10_242 (by first | exact hou_r7 (by assumption) | rfl) ?_
      refine J_iload_n (pc := 108) dX10_alms_108 rfl ?_
      refine J_il (pc := 109) dX10_alms_109 (by first | exact hou_a7 (by assumption) | rfl) (by first | with_reducible rfl | assumption | exact ix_nI _ | rfl) ⟨by first | decide | omega, by decide⟩ ?_
      refine J_t1 ((hHC.2.2.2.2.2 _ hp).2) ?_
      refine J_mmin (pc := 110) dX10_alms_110 ml_X10_323 (Nat.le_of_ble_eq_true rfl) ?_
      exact J_iret (pc := 113) rfl rfl rfl dX10_alms_113 (rq hQ (min_lt _ _) rfl)
    refine dn_ind (n := 99) (P := fun k => (∀ j, j < k → (fun k => gvC d y (nI k)) (j + 1) ≤ z) → J g mX10_alms 2 [] 70 [some (.ref 0), some (.int (nI p)), some (.int y), some (.int z), some (.int (ix k))] [] (hs S) sz 0 0 Q) ?_ (fun k hi ih => ?_) 0 (Nat.zero_le _) (fun j hj => absurd hj (by omega))
    · intro hall
      refine J_iload (pc := 70) dX10_alms_70 rfl ?_
      refine J_bipush (pc := 72) (v := 99) dX10_alms_72 (by decide) ?_
      refine J_icmp_ge (pc := 74) (tgt := 96) dX10_alms_74 (by decide) (fun c74 => ?_) (fun c74 => absurd (ix_ge (n := 99) rfl) c74)
      exact fin 99 (almB_st (f := (fun k => gvC d y (nI k))) (n := z) hall)
    · intro hall
      refine J_iload (pc := 70) dX10_alms_70 rfl ?_
      refine J_bipush (pc := 72) (v := 99) dX10_alms_72 (by decide) ?_
      refine J_icmp_ge (pc := 74) (tgt := 96) dX10_alms_74 (by decide) (fun c74 => absurd c74 (ix_lt (n := 99) rfl hi (by decide))) (fun c74 => ?_)
      refine J_aload_n (pc := 77) dX10_alms_77 rfl ?_
      refine J_iload (pc := 78) dX10_alms_78 rfl ?_
      refine J_iconst (pc := 80) (v := 1) dX10_alms_80 (by decide) ?_
      refine J_iadd (pc := 81) dX10_alms_81 ?_
      refine J_t1 (y := nI (k + 1)) (by rw [ix_nI, nI_1]) ?_
      refine J_iload_n (pc := 82) dX10_alms_82 rfl ?_
      refine J_cvr (pc := 83) (N := mX10_almsUpTo) dX10_alms_83 ml_X10_320 cf_X10_almsUpTo cv_X10_almsUpTo (r_X10_almsUpTo hX) rfl rfl (Nat.le_of_ble_eq_true rfl) (by decide) (rv_of (ci := 10) rfl rfl rfl) ?_
      refine J_iload_n (pc := 86) dX10_alms_86 rfl ?_
      refine J_icmp_gt (pc := 87) (tgt := 96) dX10_alms_87 (by decide) (fun c87 => ?_) (fun c87 => ?_)
      · exact fin k (almB_end (f := (fun k => gvC d y (nI k))) (n := z) hall (Int32.not_le.mpr c87) 99 (by omega))
      · refine J_iinc (pc := 90) (v := 1) dX10_alms_90 rfl (by decide) rfl ?_
        refine J_goto (pc := 93) (tgt := 70) dX10_alms_93 (by decide) ?_
        exact ih (fun j hj => by
          by_cases q : j = k
          · subst q; exact Int32.not_lt.mp c87
          · exact hall j (by omega))
  · refine J_iconst (pc := 65) (v := 0) dX10_alms_65 (by decide) ?_
    exact J_iret (pc := 66) rfl rfl rfl dX10_alms_66 (rq hQ (if_neg (fun q => by rw [c62] at q; exact absurd q (by decide))).symm rfl)
theorem r_X10_status {g : Gp} {S : Sx} {x : Int32} : RT g mX10_status 0 [.ref 0, .int x] S (some (.int (if x = 0 then sf S 0 14 else if x = 1 then sf S 0 15 else -1))) S := by
  refine RT_ofQ ⟨rfl, rfl⟩ (Nat.le_of_ble_eq_true rfl) (fun sz Q hQ => ?_)
  by_cases h0 : x = 0
  · subst h0
    refine J_iload_n (pc := 0) dX10_status_0 rfl ?_
    refine J_lookup (pc := 1) (off := 27) (tgt := 28) dX10_status_1 (by decide) (by decide) (by decide) ?_
    refine J_aload_n (pc := 28) dX10_status_28 rfl ?_
    refine J_geti (pc := 29) dX10_status_29 kc10 fl_X10_351 rfl ?_
    exact J_iret (pc := 32) rfl rfl rfl dX10_status_32 (rq hQ (if_pos rfl).symm rfl)
  by_cases h1 : x = 1
  · subst h1
    refine J_iload_n (pc := 0) dX10_status_0 rfl ?_
    refine J_lookup (pc := 1) (off := 32) (tgt := 33) dX10_status_1 (by decide) (by decide) (by decide) ?_
    refine J_aload_n (pc := 33) dX10_status_33 rfl ?_
    refine J_geti (pc := 34) dX10_status_34 kc10 fl_X10_354 rfl ?_
    exact J_iret (pc := 37) rfl rfl rfl dX10_status_37 (rq hQ rfl rfl)
  refine J_iload_n (pc := 0) dX10_status_0 rfl ?_
  refine J_lookup (pc := 1) (off := 37) (tgt := 38) dX10_status_1 (by decide) (lk01 h0 h1) (by decide) ?_
  refine J_iconst (pc := 38) (v := -1) dX10_status_38 (by decide) ?_
  exact J_iret (pc := 39) rfl rfl rfl dX10_status_39 (rq hQ (by rw [if_neg h0, if_neg h1]) rfl)
theorem r_X10_fault {g : Gp} {S : Sx}  : RT g mX10_fault 0 [.ref 0] S (some (.int (sf S 1 6))) S := by
  refine RT_ofQ ⟨rfl, rfl⟩ (Nat.le_of_ble_eq_true rfl) (fun sz Q hQ => ?_)
  refine J_aload_n (pc := 0) dX10_fault_0 rfl ?_
  refine J_getr (pc := 1) dX10_fault_1 kc10 fl_X10_10 rfl ?_
  refine J_getiN (pc := 4) dX10_fault_4 kc8 fl_X10_171 rfl ?_
  exact J_iret (pc := 7) rfl rfl rfl dX10_fault_7 (rq hQ rfl rfl)
