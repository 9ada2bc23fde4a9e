theorem r_X11_needs_er {g : Gp} {S : Sx} {x : Int32} (hv : ¬ (0 ≤ x ∧ x ≤ 5)) : RT g mX11_needs 2 [.ref 59, .int x] S (some (.int 0)) (er S 1 1) := by
  refine RT_ofQ ⟨rfl, rfl⟩ (Nat.le_of_ble_eq_true rfl) (fun sz Q hQ => ?_)
  refine J_aload_n (pc := 0) dX11_needs_0 rfl ?_
  refine J_iconst (pc := 1) (v := 0) dX11_needs_1 (by decide) ?_
  refine J_puti (pc := 2) dX11_needs_2 kc11 fl_X11_103 rfl ⟨rfl, rfl⟩ ?_
  refine J_aload_n (pc := 5) dX11_needs_5 rfl ?_
  refine J_iload_n (pc := 6) dX11_needs_6 rfl ?_
  refine J_iconst (pc := 7) (v := 0) dX11_needs_7 (by decide) ?_
  refine J_iconst (pc := 8) (v := 5) dX11_needs_8 (by decide) ?_
  refine J_csr (pc := 9) (N := mX11_in) dX11_needs_9 ml_X11_137 cf_X11_in cs_X11_in r_X11_in rfl rfl (Nat.le_of_ble_eq_true rfl) (by decide) ?_
  refine J_ifp_ne (pc := 12) (tgt := 19) dX11_needs_12 (by decide) (fun c12 => absurd c12 hv) (fun c12 => ?_)
  refine J_iconst (pc := 15) (v := 1) dX11_needs_15 (by decide) ?_
  refine J_goto (pc := 16) (tgt := 20) dX11_needs_16 (by decide) ?_
  refine J_iconst (pc := 20) (v := 1) dX11_needs_20 (by decide) ?_
  refine J_iconst (pc := 21) (v := 1) dX11_needs_21 (by decide) ?_
  refine J_cvr (pc := 22) (N := mX11_bad) dX11_needs_22 ml_X11_183 cf_X11_bad cv_X11_bad (r_X11_bad_t (k := 1) rfl (by decide) (by decide) rfl) rfl rfl (Nat.le_of_ble_eq_true rfl) (by decide) (rv_of (ci := 11) rfl rfl rfl) ?_
  refine J_if_eq (pc := 25) (tgt := 30) dX11_needs_25 (by decide) (fun c25 => absurd c25 (by decide)) (fun c25 => ?_)
  refine J_iconst (pc := 28) (v := 0) dX11_needs_28 (by decide) ?_
  exact J_iret (pc := 29) rfl rfl rfl dX11_needs_29 (rq hQ (by first | rfl | simp [bI, *] | simp_all [bI]) rfl)
theorem r_X11_needs {g : Gp} {S : Sx} {x : Int32} {ns nr np : Nat} {ow : Nat → Nat} (hH : MH S ns nr np ow) (hv : 0 ≤ x ∧ x ≤ 5) : RT g mX11_needs 2 [.ref 59, .int x] S (some (.int (sm (fun p => if sa S (100 + p) 0 = x ∧ sa S 535 (36 + p) = -1 then sa S (100 + p) 1 else 0) np))) (S0 S) := by
  refine RT_ofQ ⟨rfl, rfl⟩ (Nat.le_of_ble_eq_true rfl) (fun sz Q hQ => ?_)
  have hH' := hH
  obtain ⟨e0, e1, e2, l0, l1, l2, ho⟩ := hH'
  refine J_aload_n (pc := 0) dX11_needs_0 rfl ?_
  refine J_iconst (pc := 1) (v := 0) dX11_needs_1 (by decide) ?_
  refine J_puti (pc := 2) dX11_needs_2 kc11 fl_X11_103 rfl ⟨rfl, rfl⟩ ?_
  refine J_aload_n (pc := 5) dX11_needs_5 rfl ?_
  refine J_iload_n (pc := 6) dX11_needs_6 rfl ?_
  refine J_iconst (pc := 7) (v := 0) dX11_needs_7 (by decide) ?_
  refine J_iconst (pc := 8) (v := 5) dX11_needs_8 (by decide) ?_
  refine J_csr (pc := 9) (N := mX11_in) dX11_needs_9 ml_X11_137 cf_X11_in cs_X11_in r_X11_in rfl rfl (Nat.le_of_ble_eq_true rfl) (by decide) ?_
  refine J_ifp_ne (pc := 12) (tgt := 19) dX11_needs_12 (by decide) (fun c12 => ?_) (fun c12 => absurd hv c12)
  refine J_iconst (pc := 19) (v := 0) dX11_needs_19 (by decide) ?_
  refine J_iconst (pc := 20) (v := 1) dX11_needs_20 (by decide) ?_
  refine J_iconst (pc := 21) (v := 1) dX11_needs_21 (by decide) ?_
  refine J_cvr (pc := 22) (N := mX11_bad) dX11_needs_22 ml_X11_183 cf_X11_bad cv_X11_bad (r_X11_bad_f rfl) rfl rfl (Nat.le_of_ble_eq_true rfl) (by decide) (rv_of (ci := 11) rfl rfl rfl) ?_
  refine J_if_eq (pc := 25) (tgt := 30) dX11_needs_25 (by decide) (fun c25 => ?_) (fun c25 => absurd rfl c25)
  refine J_iconst (pc := 30) (v := 0) dX11_needs_30 (by decide) ?_
  refine J_istore_n (pc := 31) dX11_needs_31 (by decide) rfl ?_
  refine J_iconst (pc := 32) (v := 0) dX11_needs_32 (by decide) ?_
  refine J_istore_n (pc := 33) dX11_needs_33 (by decide) rfl ?_
  show J g mX11_needs 2 [] 34 [some (.ref 59), some (.int x), some (.int 0), some (.int 0)] [] (hs (S0 S)) sz 0 0 Q
  refine dn_ind (n := np) (P := fun i => J g mX11_needs 2 [] 34 [some (.ref 59), some (.int x), some (.int (sm (fun p => if sa S (100 + p) 0 = x ∧ sa S 535 (36 + p) = -1 then sa S (100 + p) 1 else 0) i)), some (.int (ix i))] [] (hs (S0 S)) sz 0 0 Q) ?_ (fun i hi ih => ?_) 0 (Nat.zero_le _)
  · refine J_iload_n (pc := 34) dX11_needs_34 rfl ?_
    refine J_aload_n (pc := 35) dX11_needs_35 rfl ?_
    refine J_getr (pc := 36) dX11_needs_36 kc11 fl_X11_23 rfl ?_
    refine J_iconst (pc := 39) (v := 2) dX11_needs_39 (by decide) ?_
    refine J_il (pc := 40) dX11_needs_40 (by first | rfl | assumption) (rfl : (2 : Int32) = nI 2) ⟨by first | decide | omega, by decide⟩ ?_
    refine J_icmp_ge (pc := 41) (tgt := 90) dX11_needs_41 (by decide) (fun c41 => ?_) (fun c41 => absurd (ix_ge e2) c41)
    refine J_iload_n (pc := 90) dX11_needs_90 rfl ?_
    exact J_iret (pc := 91) rfl rfl rfl dX11_needs_91 (rq hQ (by first | rfl | simp [bI, *] | simp_all [bI]) rfl)
  · refine J_iload_n (pc := 34) dX11_needs_34 rfl ?_
    refine J_aload_n (pc := 35) dX11_needs_35 rfl ?_
    refine J_getr (pc := 36) dX11_needs_36 kc11 fl_X11_23 rfl ?_
    refine J_iconst (pc := 39) (v := 2) dX11_needs_39 (by decide) ?_
    refine J_il (pc := 40) dX11_needs_40 (by first | rfl | assumption) (rfl : (2 : Int32) = nI 2) ⟨by first | decide | omega, by decide⟩ ?_
    refine J_icmp_ge (pc := 41) (tgt := 90) dX11_needs_41 (by decide) (fun c41 => absurd c41 (ix_lt e2 hi (by omega))) (fun c41 => ?_)
    refine J_iload_n (pc := 44) dX11_needs_44 rfl ?_
    refine J_aload_n (pc := 45) dX11_needs_45 rfl ?_
    refine J_getr (pc := 46) dX11_needs_46 kc11 fl_X11_49 rfl ?_
    refine J_iload_n (pc := 49) dX11_needs_49 rfl ?_
    refine J_ar1 (pc := 50) dX11_needs_50 rfl (by first | with_reducible rfl | assumption | exact ix_nI _ | rfl) ⟨by first | decide | omega, by decide⟩ ?_
    refine J_iconst (pc := 51) (v := 0) dX11_needs_51 (by decide) ?_
    refine J_il (pc := 52) dX11_needs_52 (lay_pilgrim (by omega)) (rfl : (0 : Int32) = nI 0) ⟨by first | decide | omega, by decide⟩ ?_
    refine J_iload_n (pc := 53) dX11_needs_53 rfl ?_
    refine J_icmp_ne (pc := 54) (tgt := 81) dX11_needs_54 (by decide) (fun c54 => ?_) (fun c54 => ?_)
    · refine J_iconst (pc := 81) (v := 0) dX11_needs_81 (by decide) ?_
      refine J_iadd (pc := 82) dX11_needs_82 ?_
      refine J_t1 (y := sm (fun p => if sa S (100 + p) 0 = x ∧ sa S 535 (36 + p) = -1 then sa S (100 + p) 1 else 0) (i + 1)) (by show _ = sm (fun p => if sa S (100 + p) 0 = x ∧ sa S 535 (36 + p) = -1 then sa S (100 + p) 1 else 0) i + _; first | exact congrArg _ (if_neg (fun q => c54 q.1)).symm | exact congrArg _ (if_neg (fun q => c67 q.2)).symm | exact congrArg _ (if_pos ⟨c54, c67⟩).symm) ?_
      refine J_istore_n (pc := 83) dX11_needs_83 (by decide) rfl ?_
      refine J_iinc (pc := 84) (v := 1) dX11_needs_84 rfl (by decide) rfl ?_
      refine J_goto (pc := 87) (tgt := 34) dX11_needs_87 (by decide) ?_
      exact ih
    · refine J_aload_n (pc := 57) dX11_needs_57 rfl ?_
      refine J_getr (pc := 58) dX11_needs_58 kc11 fl_X11_73 rfl ?_
      refine J_bipush (pc := 61) (v := 36) dX11_needs_61 (by decide) ?_
      refine J_iload_n (pc := 63) dX11_needs_63 rfl ?_
      refine J_iadd (pc := 64) dX11_needs_64 ?_
      refine J_il (pc := 65) dX11_needs_65 (by first | rfl | assumption) (by first | exact nI_add 36 _ | (rw [ix_nI]; exact nI_add 36 _)) ⟨by first | decide | omega, by decide⟩ ?_
      refine J_iconst (pc := 66) (v := -1) dX11_needs_66 (by decide) ?_
      refine J_icmp_ne (pc := 67) (tgt := 81) dX11_needs_67 (by decide) (fun c67 => ?_) (fun c67 => ?_)
      · refine J_iconst (pc := 81) (v := 0) dX11_needs_81 (by decide) ?_
        refine J_iadd (pc := 82) dX11_needs_82 ?_
        refine J_t1 (y := sm (fun p => if sa S (100 + p) 0 = x ∧ sa S 535 (36 + p) = -1 then sa S (100 + p) 1 else 0) (i + 1)) (by show _ = sm (fun p => if sa S (100 + p) 0 = x ∧ sa S 535 (36 + p) = -1 then sa S (100 + p) 1 else 0) i + _; first | exact congrArg _ (if_neg (fun q => c54 q.1)).symm | exact congrArg _ (if_neg (fun q => c67 q.2)).symm | exact congrArg _ (if_pos ⟨c54, c67⟩).symm) ?_
        refine J_istore_n (pc := 83) dX11_needs_83 (by decide) rfl ?_
        refine J_iinc (pc := 84) (v := 1) dX11_needs_84 rfl (by decide) rfl ?_
        refine J_goto (pc := 87) (tgt := 34) dX11_needs_87 (by decide) ?_
        exact ih
      · refine J_aload_n (pc := 70) dX11_needs_70 rfl ?_
        refine J_getr (pc := 71) dX11_needs_71 kc11 fl_X11_49 rfl ?_
        refine J_iload_n (pc := 74) dX11_needs_74 rfl ?_
        refine J_ar1 (pc := 75) dX11_needs_75 rfl (by first | with_reducible rfl | assumption | exact ix_nI _ | rfl) ⟨by first | decide | omega, by decide⟩ ?_
        refine J_iconst (pc := 76) (v := 1) dX11_needs_76 (by decide) ?_
        refine J_il (pc := 77) dX11_needs_77 (lay_pilgrim (by omega)) (rfl : (1 : Int32) = nI 1) ⟨by first | decide | omega, by decide⟩ ?_
        refine J_goto (pc := 78) (tgt := 82) dX11_needs_78 (by decide) ?_
        refine J_iadd (pc := 82) dX11_needs_82 ?_
        refine J_t1 (y := sm (fun p => if sa S (100 + p) 0 = x ∧ sa S 535 (36 + p) = -1 then sa S (100 + p) 1 else 0) (i + 1)) (by show _ = sm (fun p => if sa S (100 + p) 0 = x ∧ sa S 535 (36 + p) = -1 then sa S (100 + p) 1 else 0) i + _; first | exact congrArg _ (if_neg (fun q => c54 q.1)).symm | exact congrArg _ (if_neg (fun q => c67 q.2)).symm | exact congrArg _ (if_pos ⟨c54, c67⟩).symm) ?_
        refine J_istore_n (pc := 83) dX11_needs_83 (by decide) rfl ?_
        refine J_iinc (pc := 84) (v := 1) dX11_needs_84 rfl (by decide) rfl ?_
        refine J_goto (pc := 87) (tgt := 34) dX11_needs_87 (by decide) ?_
        exact ih
theorem r_X11_strength_er {g : Gp} {S : Sx} {x : Int32} {ns nr np : Nat} {ow : Nat → Nat} (hH : MH S ns nr np ow) (hv : ¬ (0 ≤ x ∧ x ≤ nI ns - 1)) : RT g mX11_strength 2 [.ref 59, .int x] S (some (.int 0)) (er S 1 0) := by
  refine RT_ofQ ⟨rfl, rfl⟩ (Nat.le_of_ble_eq_true rfl) (fun sz Q hQ => ?_)
  refine J_aload_n (pc := 0) dX11_strength_0 rfl ?_
  refine J_iconst (pc := 1) (v := 0) dX11_strength_1 (by decide) ?_
  refine J_puti (pc := 2) dX11_strength_2 kc11 fl_X11_103 rfl ⟨rfl, rfl⟩ ?_
  refine J_aload_n (pc := 5) dX11_strength_5 rfl ?_
  refine J_aload_n (pc := 6) dX11_strength_6 rfl ?_
  refine J_iload_n (pc := 7) dX11_strength_7 rfl ?_
  refine J_cvr (pc := 8) (N := mX11_isSister) dX11_strength_8 ml_X11_336 cf_X11_isSister cv_X11_isSister (r_X11_isSister (S := S0 S) hH) rfl rfl (Nat.le_of_ble_eq_true rfl) (by decide) (rv_of (ci := 11) rfl rfl rfl) ?_
  refine J_ifp_ne (pc := 11) (tgt := 18) dX11_strength_11 (by decide) (fun c11 => absurd c11 hv) (fun c11 => ?_)
  refine J_iconst (pc := 14) (v := 1) dX11_strength_14 (by decide) ?_
  refine J_goto (pc := 15) (tgt := 19) dX11_strength_15 (by decide) ?_
  refine J_iconst (pc := 19) (v := 1) dX11_strength_19 (by decide) ?_
  refine J_iconst (pc := 20) (v := 0) dX11_strength_20 (by decide) ?_
  refine J_cvr (pc := 21) (N := mX11_bad) dX11_strength_21 ml_X11_183 cf_X11_bad cv_X11_bad (r_X11_bad_t (k := 0) rfl (by decide) (by decide) rfl) rfl rfl (Nat.le_of_ble_eq_true rfl) (by decide) (rv_of (ci := 11) rfl rfl rfl) ?_
  refine J_if_eq (pc := 24) (tgt := 29) dX11_strength_24 (by decide) (fun c24 => absurd c24 (by decide)) (fun c24 => ?_)
  refine J_iconst (pc := 27) (v := 0) dX11_strength_27 (by decide) ?_
  exact J_iret (pc := 28) rfl rfl rfl dX11_strength_28 (rq hQ (by first | rfl | simp [bI, *] | simp_all [bI]) rfl)
theorem r_X11_strength {g : Gp} {S : Sx} {x : Int32} {ns nr np m : Nat} {ow : Nat → Nat} {wv : Nat → Nat × Nat} (hH : MH S ns nr np ow) (hW : LawW m wv) (hM : LawM S m wv) (hv : 0 ≤ x ∧ x ≤ nI ns - 1) : RW g mX11_strength 7 [.ref 59, .int x] S (some (.int (sm (fun r => if sa S (80 + r) 0 = x then mpw S 535 nr ow m wv r else 0) nr))) (S0 S) := by
  refine RW_ofQ ⟨rfl, rfl⟩ (Nat.le_of_ble_eq_true rfl) (fun T sz Q hQ => ?_)
  have hH' := hH
  obtain ⟨e0, e1, e2, l0, l1, l2, ho⟩ := hH'
  refine J_aload_n (pc := 0) dX11_strength_0 rfl ?_
  refine J_iconst (pc := 1) (v := 0) dX11_strength_1 (by decide) ?_
  refine J_putiw (pc := 2) dX11_strength_2 kc11 fl_X11_103 rfl ⟨rfl, rfl⟩ ?_
  refine J_aload_n (pc := 5) dX11_strength_5 rfl ?_
  refine J_aload_n (pc := 6) dX11_strength_6 rfl ?_
  refine J_iload_n (pc := 7) dX11_strength_7 rfl ?_
  refine J_cvr (pc := 8) (N := mX11_isSister) dX11_strength_8 ml_X11_336 cf_X11_isSister cv_X11_isSister (r_X11_isSister (S := w1 (S0 S) T) hH) rfl rfl (Nat.le_of_ble_eq_true rfl) (by decide) (rv_of (ci := 11) rfl rfl rfl) ?_
  refine J_ifp_ne (pc := 11) (tgt := 18) dX11_strength_11 (by decide) (fun c11 => ?_) (fun c11 => absurd hv c11)
  refine J_iconst (pc := 18) (v := 0) dX11_strength_18 (by decide) ?_
  refine J_iconst (pc := 19) (v := 1) dX11_strength_19 (by decide) ?_
  refine J_iconst (pc := 20) (v := 0) dX11_strength_20 (by decide) ?_
  refine J_cvr (pc := 21) (N := mX11_bad) dX11_strength_21 ml_X11_183 cf_X11_bad cv_X11_bad (r_X11_bad_f rfl) rfl rfl (Nat.le_of_ble_eq_true rfl) (by decide) (rv_of (ci := 11) rfl rfl rfl) ?_
  refine J_if_eq (pc := 24) (tgt := 29) dX11_strength_24 (by decide) (fun c24 => ?_) (fun c24 => absurd rfl c24)
  refine J_iconst (pc := 29) (v := 0) dX11_strength_29 (by decide) ?_
  refine J_istore_n (pc := 30) dX11_strength_30 (by decide) rfl ?_
  refine J_iconst (pc := 31) (v := 0) dX11_strength_31 (by decide) ?_
  refine J_istore_n (pc := 32) dX11_strength_32 (by decide) rfl ?_
  show J g mX11_strength 7 [] 33 [some (.ref 59), some (.int x), some (.int 0), some (.int 0)] [] (hs (w1 (S0 S) T)) sz 0 0 Q
  refine dn_ind (n := nr) (P := fun i => ∀ T, J g mX11_strength 7 [] 33 [some (.ref 59), some (.int x), some (.int (sm (fun r => if sa S (80 + r) 0 = x then mpw S 535 nr ow m wv r else 0) i)), some (.int (ix i))] [] (hs (w1 (S0 S) T)) sz 0 0 Q) ?_ (fun i hi ih => ?_) 0 (Nat.zero_le _) _
  · intro T
    refine J_iload_n (pc := 33) dX11_strength_33 rfl ?_
    refine J_aload_n (pc := 34) dX11_strength_34 rfl ?_
    refine J_getr (pc := 35) dX11_strength_35 kc11 fl_X11_23 rfl ?_
    refine J_iconst (pc := 38) (v := 1) dX11_strength_38 (by decide) ?_
    refine J_il (pc := 39) dX11_strength_39 (by first | rfl | assumption) (rfl : (1 : Int32) = nI 1) ⟨by first | decide | omega, by decide⟩ ?_
    refine J_icmp_ge (pc := 40) (tgt := 77) dX11_strength_40 (by decide) (fun c40 => ?_) (fun c40 => absurd (ix_ge e1) c40)
    refine J_iload_n (pc := 77) dX11_strength_77 rfl ?_
    exact J_iret (pc := 78) rfl rfl rfl dX11_strength_78 (rqw hQ (by first | rfl | simp [bI, *] | simp_all [bI]) rfl)
  · intro T
    refine J_iload_n (pc := 33) dX11_strength_33 rfl ?_
    refine J_aload_n (pc := 34) dX11_strength_34 rfl ?_
    refine J_getr (pc := 35) dX11_strength_35 kc11 fl_X11_23 rfl ?_
    refine J_iconst (pc := 38) (v := 1) dX11_strength_38 (by decide) ?_
    refine J_il (pc := 39) dX11_strength_39 (by first | rfl | assumption) (rfl : (1 : Int32) = nI 1) ⟨by first | decide | omega, by decide⟩ ?_
    refine J_icmp_ge (pc := 40) (tgt := 77) dX11_strength_40 (by decide) (fun c40 => absurd c40 (ix_lt e1 hi (by omega))) (fun c40 => ?_)
    refine J_iload_n (pc := 43) dX11_strength_43 rfl ?_
    refine J_aload_n (pc := 44) dX11_strength_44 rfl ?_
    refine J_getr (pc := 45) dX11_strength_45 kc11 fl_X11_43 rfl ?_
    refine J_iload_n (pc := 48) dX11_strength_48 rfl ?_
    refine J_ar1 (pc := 49) dX11_strength_49 rfl (by first | with_reducible rfl | assumption | exact ix_nI _ | rfl) ⟨by first | decide | omega, by decide⟩ ?_
    refine J_iconst (pc := 50) (v := 0) dX11_strength_50 (by decide) ?_
    refine J_il (pc := 51) dX11_strength_51 (lay_relic (by omega)) (rfl : (0 : Int32) = nI 0) ⟨by first | decide | omega, by decide⟩ ?_
    refine J_iload_n (pc := 52) dX11_strength_52 rfl ?_
    refine J_icmp_ne (pc := 53) (tgt := 68) dX11_strength_53 (by decide) (fun c53 => ?_) (fun c53 => ?_)
    · refine J_iconst (pc := 68) (v := 0) dX11_strength_68 (by decide) ?_
      refine J_iadd (pc := 69) dX11_strength_69 ?_
      refine J_t1 (y := sm (fun r => if sa S (80 + r) 0 = x then mpw S 535 nr ow m wv r else 0) (i + 1)) (by show _ = sm (fun r => if sa S (80 + r) 0 = x then mpw S 535 nr ow m wv r else 0) i + _; first | exact congrArg _ (if_neg c53).symm | exact congrArg _ (if_pos c53).symm) ?_
      refine J_istore_n (pc := 70) dX11_strength_70 (by decide) rfl ?_
      refine J_iinc (pc := 71) (v := 1) dX11_strength_71 rfl (by decide) rfl ?_
      refine J_goto (pc := 74) (tgt := 33) dX11_strength_74 (by decide) ?_
      exact ih T
    · refine J_aload_n (pc := 56) dX11_strength_56 rfl ?_
      refine J_aload_n (pc := 57) dX11_strength_57 rfl ?_
      refine J_getr (pc := 58) dX11_strength_58 kc11 fl_X11_73 rfl ?_
      refine J_iload_n (pc := 61) dX11_strength_61 rfl ?_
      refine J_t1 (ix_nI i) ?_
      refine J_cvw (pc := 62) (N := mX11_power) dX11_strength_62 ml_X11_289 cf_X11_power cv_X11_power (r_X11_power (S := S0 S) row535 hH hW hM hi) rfl rfl (Nat.le_of_ble_eq_true rfl) (by decide) (rv_of (ci := 11) rfl rfl rfl) ?_
      intro T
      refine J_goto (pc := 65) (tgt := 69) dX11_strength_65 (by decide) ?_
      refine J_iadd (pc := 69) dX11_strength_69 ?_
      refine J_t1 (y := sm (fun r => if sa S (80 + r) 0 = x then mpw S 535 nr ow m wv r else 0) (i + 1)) (by show _ = sm (fun r => if sa S (80 + r) 0 = x then mpw S 535 nr ow m wv r else 0) i + _; first | exact congrArg _ (if_neg c53).symm | exact congrArg _ (if_pos c53).symm) ?_
      refine J_istore_n (pc := 70) dX11_strength_70 (by decide) rfl ?_
      refine J_iinc (pc := 71) (v := 1) dX11_strength_71 rfl (by decide) rfl ?_
      refine J_goto (pc := 74) (tgt := 33) dX11_strength_74 (by decide) ?_
      exact ih T
theorem r_X11_idle {g : Gp} {S : Sx} {ns nr np : Nat} {ow : Nat → Nat} (hH : MH S ns nr np ow) : RT g mX11_idle 2 [.ref 59] S (some (.int (msk (fun s => decide (sa S 535 (0 + s) = 0 ∧ mko S 535 (ix s) nr = 0)) ns))) (S0 S) := by
  refine RT_ofQ ⟨rfl, rfl⟩ (Nat.le_of_ble_eq_true rfl) (fun sz Q hQ => ?_)
  have hH' := hH
  obtain ⟨e0, e1, e2, l0, l1, l2, ho⟩ := hH'
  refine J_aload_n (pc := 0) dX11_idle_0 rfl ?_
  refine J_iconst (pc := 1) (v := 0) dX11_idle_1 (by decide) ?_
  refine J_puti (pc := 2) dX11_idle_2 kc11 fl_X11_103 rfl ⟨rfl, rfl⟩ ?_
  refine J_iconst (pc := 5) (v := 0) dX11_idle_5 (by decide) ?_
  refine J_istore_n (pc := 6) dX11_idle_6 (by decide) rfl ?_
  refine J_iconst (pc := 7) (v := 0) dX11_idle_7 (by decide) ?_
  refine J_istore_n (pc := 8) dX11_idle_8 (by decide) rfl ?_
  show J g mX11_idle 2 [] 9 [some (.ref 59), some (.int 0), some (.int 0)] [] (hs (S0 S)) sz 0 0 Q
  refine dn_ind (n := ns) (P := fun i => J g mX11_idle 2 [] 9 [some (.ref 59), some (.int (msk (fun s => decide (sa S 535 (0 + s) = 0 ∧ mko S 535 (ix s) nr = 0)) i)), some (.int (ix i))] [] (hs (S0 S)) sz 0 0 Q) ?_ (fun i hi ih => ?_) 0 (Nat.zero_le _)
  · refine J_iload_n (pc := 9) dX11_idle_9 rfl ?_
    refine J_aload_n (pc := 10) dX11_idle_10 rfl ?_
    refine J_getr (pc := 11) dX11_idle_11 kc11 fl_X11_23 rfl ?_
    refine J_iconst (pc := 14) (v := 0) dX11_idle_14 (by decide) ?_
    refine J_il (pc := 15) dX11_idle_15 (by first | rfl | assumption) (rfl : (0 : Int32) = nI 0) ⟨by first | decide | omega, by decide⟩ ?_
    refine J_icmp_ge (pc := 16) (tgt := 58) dX11_idle_16 (by decide) (fun c16 => ?_) (fun c16 => absurd (ix_ge e0) c16)
    refine J_iload_n (pc := 58) dX11_idle_58 rfl ?_
    exact J_iret (pc := 59) rfl rfl rfl dX11_idle_59 (rq hQ (by first | rfl | simp [bI, *] | simp_all [bI]) rfl)
  · refine J_iload_n (pc := 9) dX11_idle_9 rfl ?_
    refine J_aload_n (pc := 10) dX11_idle_10 rfl ?_
    refine J_getr (pc := 11) dX11_idle_11 kc11 fl_X11_23 rfl ?_
    refine J_iconst (pc := 14) (v := 0) dX11_idle_14 (by decide) ?_
    refine J_il (pc := 15) dX11_idle_15 (by first | rfl | assumption) (rfl : (0 : Int32) = nI 0) ⟨by first | decide | omega, by decide⟩ ?_
    refine J_icmp_ge (pc := 16) (tgt := 58) dX11_idle_16 (by decide) (fun c16 => absurd c16 (ix_lt e0 hi (by omega))) (fun c16 => ?_)
    refine J_iload_n (pc := 19) dX11_idle_19 rfl ?_
    refine J_aload_n (pc := 20) dX11_idle_20 rfl ?_
    refine J_getr (pc := 21) dX11_idle_21 kc11 fl_X11_73 rfl ?_
    refine J_iconst (pc := 24) (v := 0) dX11_idle_24 (by decide) ?_
    refine J_iload_n (pc := 25) dX11_idle_25 rfl ?_
    refine J_iadd (pc := 26) dX11_idle_26 ?_
    refine J_il (pc := 27) dX11_idle_27 (by first | rfl | assumption) (by first | exact nI_add 0 _ | (rw [ix_nI]; exact nI_add 0 _)) ⟨by first | decide | omega, by decide⟩ ?_
    refine J_if_ne (pc := 28) (tgt := 49) dX11_idle_28 (by decide) (fun c28 => ?_) (fun c28 => ?_)
    · refine J_iconst (pc := 49) (v := 0) dX11_idle_49 (by decide) ?_
      refine J_ior (pc := 50) dX11_idle_50 ?_
      refine J_t1 (y := msk (fun s => decide (sa S 535 (0 + s) = 0 ∧ mko S 535 (ix s) nr = 0)) (i + 1)) (by first | exact msk_t (decide_eq_true ⟨c28, c40⟩) | exact msk_f (fun q => c28 (of_decide_eq_true q).1) | exact msk_f (fun q => c40 (of_decide_eq_true q).2)) ?_
      refine J_istore_n (pc := 51) dX11_idle_51 (by decide) rfl ?_
      refine J_iinc (pc := 52) (v := 1) dX11_idle_52 rfl (by decide) rfl ?_
      refine J_goto (pc := 55) (tgt := 9) dX11_idle_55 (by decide) ?_
      exact ih
    · refine J_aload_n (pc := 31) dX11_idle_31 rfl ?_
      refine J_aload_n (pc := 32) dX11_idle_32 rfl ?_
      refine J_getr (pc := 33) dX11_idle_33 kc11 fl_X11_73 rfl ?_
      refine J_iload_n (pc := 36) dX11_idle_36 rfl ?_
      refine J_cvr (pc := 37) (N := mX11_keptOf) dX11_idle_37 ml_X11_274 cf_X11_keptOf cv_X11_keptOf (r_X11_keptOf (S := S0 S) row535 hH) rfl rfl (Nat.le_of_ble_eq_true rfl) (by decide) (rv_of (ci := 11) rfl rfl rfl) ?_
      refine J_if_ne (pc := 40) (tgt := 49) dX11_idle_40 (by decide) (fun c40 => ?_) (fun c40 => ?_)
      · refine J_iconst (pc := 49) (v := 0) dX11_idle_49 (by decide) ?_
        refine J_ior (pc := 50) dX11_idle_50 ?_
        refine J_t1 (y := msk (fun s => decide (sa S 535 (0 + s) = 0 ∧ mko S 535 (ix s) nr = 0)) (i + 1)) (by first | exact msk_t (decide_eq_true ⟨c28, c40⟩) | exact msk_f (fun q => c28 (of_decide_eq_true q).1) | exact msk_f (fun q => c40 (of_decide_eq_true q).2)) ?_
        refine J_istore_n (pc := 51) dX11_idle_51 (by decide) rfl ?_
        refine J_iinc (pc := 52) (v := 1) dX11_idle_52 rfl (by decide) rfl ?_
        refine J_goto (pc := 55) (tgt := 9) dX11_idle_55 (by decide) ?_
        exact ih
      · refine J_iconst (pc := 43) (v := 1) dX11_idle_43 (by decide) ?_
        refine J_iload_n (pc := 44) dX11_idle_44 rfl ?_
        refine J_ishl (pc := 45) dX11_idle_45 ?_
        refine J_goto (pc := 46) (tgt := 50) dX11_idle_46 (by decide) ?_
        refine J_ior (pc := 50) dX11_idle_50 ?_
        refine J_t1 (y := msk (fun s => decide (sa S 535 (0 + s) = 0 ∧ mko S 535 (ix s) nr = 0)) (i + 1)) (by first | exact msk_t (decide_eq_true ⟨c28, c40⟩) | exact msk_f (fun q => c28 (of_decide_eq_true q).1) | exact msk_f (fun q => c40 (of_decide_eq_true q).2)) ?_
        refine J_istore_n (pc := 51) dX11_idle_51 (by decide) rfl ?_
        refine J_iinc (pc := 52) (v := 1) dX11_idle_52 rfl (by decide) rfl ?_
        refine J_goto (pc := 55) (tgt := 9) dX11_idle_55 (by decide) ?_
        exact ih
def brf (kp : Nat → Bool) (il : Nat → Int32) : Nat → Int32
  | 0 => 63
  | r + 1 => brf kp il r &&& (if kp r = true then (1 <<< (il r &&& 31)) ^^^ (-1) else brf kp il r)
theorem r_X11_bare {g : Gp} {S : Sx} {ns nr np : Nat} {ow : Nat → Nat} (hH : MH S ns nr np ow) : RT g mX11_bare 2 [.ref 59] S (some (.int (brf (fun r => decide (sa S 535 (16 + r) ≠ -1)) (fun r => sa S (80 + r) 1) nr))) (S0 S) := by
  refine RT_ofQ ⟨rfl, rfl⟩ (Nat.le_of_ble_eq_true rfl) (fun sz Q hQ => ?_)
  have hH' := hH
  obtain ⟨e0, e1, e2, l0, l1, l2, ho⟩ := hH'
  refine J_aload_n (pc := 0) dX11_bare_0 rfl ?_
  refine J_iconst (pc := 1) (v := 0) dX11_bare_1 (by decide) ?_
  refine J_puti (pc := 2) dX11_bare_2 kc11 fl_X11_103 rfl ⟨rfl, rfl⟩ ?_
  refine J_bipush (pc := 5) (v := 63) dX11_bare_5 (by decide) ?_
  refine J_istore_n (pc := 7) dX11_bare_7 (by decide) rfl ?_
  refine J_iconst (pc := 8) (v := 0) dX11_bare_8 (by decide) ?_
  refine J_istore_n (pc := 9) dX11_bare_9 (by decide) rfl ?_
  show J g mX11_bare 2 [] 10 [some (.ref 59), some (.int 63), some (.int 0)] [] (hs (S0 S)) sz 0 0 Q
  refine dn_ind (n := nr) (P := fun i => J g mX11_bare 2 [] 10 [some (.ref 59), some (.int (brf (fun r => decide (sa S 535 (16 + r) ≠ -1)) (fun r => sa S (80 + r) 1) i)), some (.int (ix i))] [] (hs (S0 S)) sz 0 0 Q) ?_ (fun i hi ih => ?_) 0 (Nat.zero_le _)
  · refine J_iload_n (pc := 10) dX11_bare_10 rfl ?_
    refine J_aload_n (pc := 11) dX11_bare_11 rfl ?_
    refine J_getr (pc := 12) dX11_bare_12 kc11 fl_X11_23 rfl ?_
    refine J_iconst (pc := 15) (v := 1) dX11_bare_15 (by decide) ?_
    refine J_il (pc := 16) dX11_bare_16 (by first | rfl | assumption) (rfl : (1 : Int32) = nI 1) ⟨by first | decide | omega, by decide⟩ ?_
    refine J_icmp_ge (pc := 17) (tgt := 56) dX11_bare_17 (by decide) (fun c17 => ?_) (fun c17 => absurd (ix_ge e1) c17)
    refine J_iload_n (pc := 56) dX11_bare_56 rfl ?_
    exact J_iret (pc := 57) rfl rfl rfl dX11_bare_57 (rq hQ (by first | rfl | simp [bI, *] | simp_all [bI]) rfl)
  · refine J_iload_n (pc := 10) dX11_bare_10 rfl ?_
    refine J_aload_n (pc := 11) dX11_bare_11 rfl ?_
    refine J_getr (pc := 12) dX11_bare_12 kc11 fl_X11_23 rfl ?_
    refine J_iconst (pc := 15) (v := 1) dX11_bare_15 (by decide) ?_
    refine J_il (pc := 16) dX11_bare_16 (by first | rfl | assumption) (rfl : (1 : Int32) = nI 1) ⟨by first | decide | omega, by decide⟩ ?_
    refine J_icmp_ge (pc := 17) (tgt := 56) dX11_bare_17 (by decide) (fun c17 => absurd c17 (ix_lt e1 hi (by omega))) (fun c17 => ?_)
    refine J_iload_n (pc := 20) dX11_bare_20 rfl ?_
    refine J_aload_n (pc := 21) dX11_bare_21 rfl ?_
    refine J_getr (pc := 22) dX11_bare_22 kc11 fl_X11_73 rfl ?_
    refine J_iload_n (pc := 25) dX11_bare_25 rfl ?_
    refine J_t1 (ix_nI i) ?_
    refine J_csr (pc := 26) (N := mX11_isKept) dX11_bare_26 ml_X11_267 cf_X11_isKept cs_X11_isKept (r_X11_isKept (S := S0 S) (r := i) row535 (by omega)) rfl rfl (Nat.le_of_ble_eq_true rfl) (by decide) ?_
    refine J_ifp_eq (pc := 29) (tgt := 47) dX11_bare_29 (by decide) (fun c29 => ?_) (fun c29 => ?_)
    · refine J_iload_n (pc := 47) dX11_bare_47 rfl ?_
      refine J_iand (pc := 48) dX11_bare_48 ?_
      refine J_t1 (y := brf (fun r => decide (sa S 535 (16 + r) ≠ -1)) (fun r => sa S (80 + r) 1) (i + 1)) (by show _ = brf (fun r => decide (sa S 535 (16 + r) ≠ -1)) (fun r => sa S (80 + r) 1) i &&& _; first | exact congrArg _ (if_pos (decide_eq_true c29)).symm | exact congrArg _ (if_neg (fun q => c29 (of_decide_eq_true q))).symm) ?_
      refine J_istore_n (pc := 49) dX11_bare_49 (by decide) rfl ?_
      refine J_iinc (pc := 50) (v := 1) dX11_bare_50 rfl (by decide) rfl ?_
      refine J_goto (pc := 53) (tgt := 10) dX11_bare_53 (by decide) ?_
      exact ih
    · refine J_iconst (pc := 32) (v := 1) dX11_bare_32 (by decide) ?_
      refine J_aload_n (pc := 33) dX11_bare_33 rfl ?_
      refine J_getr (pc := 34) dX11_bare_34 kc11 fl_X11_43 rfl ?_
      refine J_iload_n (pc := 37) dX11_bare_37 rfl ?_
      refine J_ar1 (pc := 38) dX11_bare_38 rfl (by first | with_reducible rfl | assumption | exact ix_nI _ | rfl) ⟨by first | decide | omega, by decide⟩ ?_
      refine J_iconst (pc := 39) (v := 1) dX11_bare_39 (by decide) ?_
      refine J_il (pc := 40) dX11_bare_40 (lay_relic (by omega)) (rfl : (1 : Int32) = nI 1) ⟨by first | decide | omega, by decide⟩ ?_
      refine J_ishl (pc := 41) dX11_bare_41 ?_
      refine J_iconst (pc := 42) (v := -1) dX11_bare_42 (by decide) ?_
      refine J_ixor (pc := 43) dX11_bare_43 ?_
      refine J_goto (pc := 44) (tgt := 48) dX11_bare_44 (by decide) ?_
      refine J_iand (pc := 48) dX11_bare_48 ?_
      refine J_t1 (y := brf (fun r => decide (sa S 535 (16 + r) ≠ -1)) (fun r => sa S (80 + r) 1) (i + 1)) (by show _ = brf (fun r => decide (sa S 535 (16 + r) ≠ -1)) (fun r => sa S (80 + r) 1) i &&& _; first | exact congrArg _ (if_pos (decide_eq_true c29)).symm | exact congrArg _ (if_neg (fun q => c29 (of_decide_eq_true q))).symm) ?_
      refine J_istore_n (pc := 49) dX11_bare_49 (by decide) rfl ?_
      refine J_iinc (pc := 50) (v := 1) dX11_bare_50 rfl (by decide) rfl ?_
      refine J_goto (pc := 53) (tgt := 10) dX11_bare_53 (by decide) ?_
      exact ih
theorem r_X11_can_er {g : Gp} {S : Sx} {x y : Int32} {ns nr np : Nat} {ow : Nat → Nat} (hH : MH S ns nr np ow) (hv : ¬ ((0 ≤ x ∧ x ≤ nI nr - 1) ∧ (0 ≤ y ∧ y ≤ nI np - 1))) : RT g mX11_can 2 [.ref 59, .int x, .int y] S (some (.int 0)) (er S 1 0) := by
  refine RT_ofQ ⟨rfl, rfl⟩ (Nat.le_of_ble_eq_true rfl) (fun sz Q hQ => ?_)
  refine J_aload_n (pc := 0) dX11_can_0 rfl ?_
  refine J_iconst (pc := 1) (v := 0) dX11_can_1 (by decide) ?_
  refine J_puti (pc := 2) dX11_can_2 kc11 fl_X11_103 rfl ⟨rfl, rfl⟩ ?_
  refine J_aload_n (pc := 5) dX11_can_5 rfl ?_
  refine J_aload_n (pc := 6) dX11_can_6 rfl ?_
  refine J_iload_n (pc := 7) dX11_can_7 rfl ?_
  refine J_cvr (pc := 8) (N := mX11_isRelic) dX11_can_8 ml_X11_339 cf_X11_isRelic cv_X11_isRelic (r_X11_isRelic (S := S0 S) hH) rfl rfl (Nat.le_of_ble_eq_true rfl) (by decide) (rv_of (ci := 11) rfl rfl rfl) ?_
  refine J_ifp_eq (pc := 11) (tgt := 22) dX11_can_11 (by decide) (fun c11 => ?_) (fun c11 => ?_)
  · refine J_iconst (pc := 22) (v := 1) dX11_can_22 (by decide) ?_
    refine J_goto (pc := 23) (tgt := 27) dX11_can_23 (by decide) ?_
    refine J_iconst (pc := 27) (v := 1) dX11_can_27 (by decide) ?_
    refine J_iconst (pc := 28) (v := 0) dX11_can_28 (by decide) ?_
    refine J_cvr (pc := 29) (N := mX11_bad) dX11_can_29 ml_X11_183 cf_X11_bad cv_X11_bad (r_X11_bad_t (k := 0) rfl (by decide) (by decide) rfl) rfl rfl (Nat.le_of_ble_eq_true rfl) (by decide) (rv_of (ci := 11) rfl rfl rfl) ?_
    refine J_if_eq (pc := 32) (tgt := 37) dX11_can_32 (by decide) (fun c32 => absurd c32 (by decide)) (fun c32 => ?_)
    refine J_iconst (pc := 35) (v := 0) dX11_can_35 (by decide) ?_
    exact J_iret (pc := 36) rfl rfl rfl dX11_can_36 (rq hQ (by first | rfl | simp [bI, *] | simp_all [bI]) rfl)
  · refine J_aload_n (pc := 14) dX11_can_14 rfl ?_
    refine J_iload_n (pc := 15) dX11_can_15 rfl ?_
    refine J_cvr (pc := 16) (N := mX11_isPerson) dX11_can_16 ml_X11_342 cf_X11_isPerson cv_X11_isPerson (r_X11_isPerson (S := S0 S) hH) rfl rfl (Nat.le_of_ble_eq_true rfl) (by decide) (rv_of (ci := 11) rfl rfl rfl) ?_
    refine J_ifp_ne (pc := 19) (tgt := 26) dX11_can_19 (by decide) (fun c19 => absurd (And.intro c11 c19) hv) (fun c19 => ?_)
    refine J_iconst (pc := 22) (v := 1) dX11_can_22 (by decide) ?_
    refine J_goto (pc := 23) (tgt := 27) dX11_can_23 (by decide) ?_
    refine J_iconst (pc := 27) (v := 1) dX11_can_27 (by decide) ?_
    refine J_iconst (pc := 28) (v := 0) dX11_can_28 (by decide) ?_
    refine J_cvr (pc := 29) (N := mX11_bad) dX11_can_29 ml_X11_183 cf_X11_bad cv_X11_bad (r_X11_bad_t (k := 0) rfl (by decide) (by decide) rfl) rfl rfl (Nat.le_of_ble_eq_true rfl) (by decide) (rv_of (ci := 11) rfl rfl rfl) ?_
    refine J_if_eq (pc := 32) (tgt := 37) dX11_can_32 (by decide) (fun c32 => absurd c32 (by decide)) (fun c32 => ?_)
    refine J_iconst (pc := 35) (v := 0) dX11_can_35 (by decide) ?_
    exact J_iret (pc := 36) rfl rfl rfl dX11_can_36 (rq hQ (by first | rfl | simp [bI, *] | simp_all [bI]) rfl)
theorem r_X11_can {g : Gp} {S : Sx} {r p : Nat} {ns nr np m : Nat} {ow : Nat → Nat} {wv : Nat → Nat × Nat} (hH : MH S ns nr np ow) (hW : LawW m wv) (hM : LawM S m wv) (hr : r < nr) (hp : p < np) : RW g mX11_can 8 [.ref 59, .int (nI r), .int (nI p)] S (some (.int (bI (decide (sa S 535 (36 + p) = -1 ∧ sa S 535 (26 + r) = 0 ∧ sa S (80 + r) 1 = sa S (100 + p) 0 ∧ sa S (100 + p) 1 ≤ mpw S 535 nr ow m wv r))))) (S0 S) := by
  refine RW_ofQ ⟨rfl, rfl⟩ (Nat.le_of_ble_eq_true rfl) (fun T sz Q hQ => ?_)
  have hH' := hH
  obtain ⟨e0, e1, e2, l0, l1, l2, ho⟩ := hH'
  refine J_aload_n (pc := 0) dX11_can_0 rfl ?_
  refine J_iconst (pc := 1) (v := 0) dX11_can_1 (by decide) ?_
  refine J_putiw (pc := 2) dX11_can_2 kc11 fl_X11_103 rfl ⟨rfl, rfl⟩ ?_
  refine J_aload_n (pc := 5) dX11_can_5 rfl ?_
  refine J_aload_n (pc := 6) dX11_can_6 rfl ?_
  refine J_iload_n (pc := 7) dX11_can_7 rfl ?_
  refine J_cvr (pc := 8) (N := mX11_isRelic) dX11_can_8 ml_X11_339 cf_X11_isRelic cv_X11_isRelic (r_X11_isRelic (S := w1 (S0 S) T) hH) rfl rfl (Nat.le_of_ble_eq_true rfl) (by decide) (rv_of (ci := 11) rfl rfl rfl) ?_
  refine J_ifp_eq (pc := 11) (tgt := 22) dX11_can_11 (by decide) (fun c11 => absurd (inx hr (by omega)) c11) (fun c11 => ?_)
  refine J_aload_n (pc := 14) dX11_can_14 rfl ?_
  refine J_iload_n (pc := 15) dX11_can_15 rfl ?_
  refine J_cvr (pc := 16) (N := mX11_isPerson) dX11_can_16 ml_X11_342 cf_X11_isPerson cv_X11_isPerson (r_X11_isPerson (S := w1 (S0 S) T) hH) rfl rfl (Nat.le_of_ble_eq_true rfl) (by decide) (rv_of (ci := 11) rfl rfl rfl) ?_
  refine J_ifp_ne (pc := 19) (tgt := 26) dX11_can_19 (by decide) (fun c19 => ?_) (fun c19 => absurd (inx hp (by omega)) c19)
  refine J_iconst (pc := 26) (v := 0) dX11_can_26 (by decide) ?_
  refine J_iconst (pc := 27) (v := 1) dX11_can_27 (by decide) ?_
  refine J_iconst (pc := 28) (v := 0) dX11_can_28 (by decide) ?_
  refine J_cvr (pc := 29) (N := mX11_bad) dX11_can_29 ml_X11_183 cf_X11_bad cv_X11_bad (r_X11_bad_f rfl) rfl rfl (Nat.le_of_ble_eq_true rfl) (by decide) (rv_of (ci := 11) rfl rfl rfl) ?_
  refine J_if_eq (pc := 32) (tgt := 37) dX11_can_32 (by decide) (fun c32 => ?_) (fun c32 => absurd rfl c32)
  refine J_aload_n (pc := 37) dX11_can_37 rfl ?_
  refine J_aload_n (pc := 38) dX11_can_38 rfl ?_
  refine J_getr (pc := 39) dX11_can_39 kc11 fl_X11_73 rfl ?_
  refine J_iload_n (pc := 42) dX11_can_42 rfl ?_
  refine J_iload_n (pc := 43) dX11_can_43 rfl ?_
  refine J_cvw (pc := 44) (N := mX11_canCure) dX11_can_44 ml_X11_299 cf_X11_canCure cv_X11_canCure (r_X11_canCure (S := S0 S) row535 hH hW hM hr hp) rfl rfl (Nat.le_of_ble_eq_true rfl) (by decide) (rv_of (ci := 11) rfl rfl rfl) ?_
  intro T
  exact J_iret (pc := 47) rfl rfl (bI_01 _) dX11_can_47 (rqw hQ rfl rfl)
