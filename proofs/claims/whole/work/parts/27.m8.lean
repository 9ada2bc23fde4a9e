theorem inx {r n : Nat} (h : r < n) (hn : n < 100) : 0 ≤ nI r ∧ nI r ≤ nI n - 1 := ⟨nI_pos' (by omega), by rw [show (1 : Int32) = nI 1 from rfl, pk_sub (by omega)]; exact nI_le (by omega) (by omega)⟩
theorem inw {r : Nat} {y : Int32} (n : Nat) (hy : y = nI n) (h : r ≤ n) (hn : n < 2 ^ 31) : 0 ≤ nI r ∧ nI r ≤ y := ⟨nI_pos' (by omega), by rw [hy]; exact nI_le h hn⟩
def er (S : Sx) (w : Int32) (k : Nat) : Sx := sA (sF (sF S 59 0 0) 59 0 w) 61 k (sa S 61 k + 1)
abbrev S0 (S : Sx) : Sx := sF S 59 0 0
theorem row535 : isRow 535 := rfl
theorem row536 : isRow 536 := rfl
theorem r_X11_strongest_er {g : Gp} {S : Sx} {x : Int32} (hv : ¬ (0 ≤ x ∧ x ≤ 1)) : RT g mX11_strongest 2 [.ref 59, .int x] S (some (.int 0)) (er S 1 1) := by
  refine RT_ofQ ⟨rfl, rfl⟩ (Nat.le_of_ble_eq_true rfl) (fun sz Q hQ => ?_)
  refine J_aload_n (pc := 0) dX11_strongest_0 rfl ?_
  refine J_iconst (pc := 1) (v := 0) dX11_strongest_1 (by decide) ?_
  refine J_puti (pc := 2) dX11_strongest_2 kc11 fl_X11_103 rfl ⟨rfl, rfl⟩ ?_
  refine J_aload_n (pc := 5) dX11_strongest_5 rfl ?_
  refine J_iload_n (pc := 6) dX11_strongest_6 rfl ?_
  refine J_iconst (pc := 7) (v := 0) dX11_strongest_7 (by decide) ?_
  refine J_iconst (pc := 8) (v := 1) dX11_strongest_8 (by decide) ?_
  refine J_csr (pc := 9) (N := mX11_in) dX11_strongest_9 ml_X11_137 cf_X11_in cs_X11_in r_X11_in rfl rfl (Nat.le_of_ble_eq_true rfl) (by decide) ?_
  refine J_ifp_ne (pc := 12) (tgt := 19) dX11_strongest_12 (by decide) (fun c12 => absurd c12 hv) (fun c12 => ?_)
  refine J_iconst (pc := 15) (v := 1) dX11_strongest_15 (by decide) ?_
  refine J_goto (pc := 16) (tgt := 20) dX11_strongest_16 (by decide) ?_
  refine J_iconst (pc := 20) (v := 1) dX11_strongest_20 (by decide) ?_
  refine J_iconst (pc := 21) (v := 1) dX11_strongest_21 (by decide) ?_
  refine J_cvr (pc := 22) (N := mX11_bad) dX11_strongest_22 ml_X11_183 cf_X11_bad cv_X11_bad (r_X11_bad_t (k := 1) rfl (by decide) (by decide) rfl) rfl rfl (Nat.le_of_ble_eq_true rfl) (by decide) (rv_of (ci := 11) rfl rfl rfl) ?_
  refine J_if_eq (pc := 25) (tgt := 30) dX11_strongest_25 (by decide) (fun c25 => absurd c25 (by decide)) (fun c25 => ?_)
  refine J_iconst (pc := 28) (v := 0) dX11_strongest_28 (by decide) ?_
  exact J_iret (pc := 29) rfl rfl rfl dX11_strongest_29 (rq hQ (by first | rfl | simp [bI, *] | simp_all [bI]) rfl)
theorem r_X11_strongest {g : Gp} {S : Sx} {x : Int32} {ns nr np m : Nat} {ow : Nat → Nat} {wv : Nat → Nat × Nat} (hH : MH S ns nr np ow) (hW : LawW m wv) (hM : LawM S m wv) (hv : 0 ≤ x ∧ x ≤ 1) : RW g mX11_strongest 7 [.ref 59, .int x] S (some (.int (if x = 0 then (bst (fun r => decide (sa S 535 (16 + r) ≠ -1)) (mpw S 535 nr ow m wv) (-1) nr).1 else (bst (fun r => decide (sa S 535 (16 + r) ≠ -1)) (mpw S 535 nr ow m wv) (-1) nr).2))) (S0 S) := by
  refine RW_ofQ ⟨rfl, rfl⟩ (Nat.le_of_ble_eq_true rfl) (fun T sz Q hQ => ?_)
  have hH' := hH
  obtain ⟨e0, e1, e2, l0, l1, l2, ho⟩ := hH'
  refine J_aload_n (pc := 0) dX11_strongest_0 rfl ?_
  refine J_iconst (pc := 1) (v := 0) dX11_strongest_1 (by decide) ?_
  refine J_putiw (pc := 2) dX11_strongest_2 kc11 fl_X11_103 rfl ⟨rfl, rfl⟩ ?_
  refine J_aload_n (pc := 5) dX11_strongest_5 rfl ?_
  refine J_iload_n (pc := 6) dX11_strongest_6 rfl ?_
  refine J_iconst (pc := 7) (v := 0) dX11_strongest_7 (by decide) ?_
  refine J_iconst (pc := 8) (v := 1) dX11_strongest_8 (by decide) ?_
  refine J_csr (pc := 9) (N := mX11_in) dX11_strongest_9 ml_X11_137 cf_X11_in cs_X11_in r_X11_in rfl rfl (Nat.le_of_ble_eq_true rfl) (by decide) ?_
  refine J_ifp_ne (pc := 12) (tgt := 19) dX11_strongest_12 (by decide) (fun c12 => ?_) (fun c12 => absurd hv c12)
  refine J_iconst (pc := 19) (v := 0) dX11_strongest_19 (by decide) ?_
  refine J_iconst (pc := 20) (v := 1) dX11_strongest_20 (by decide) ?_
  refine J_iconst (pc := 21) (v := 1) dX11_strongest_21 (by decide) ?_
  refine J_cvr (pc := 22) (N := mX11_bad) dX11_strongest_22 ml_X11_183 cf_X11_bad cv_X11_bad (r_X11_bad_f rfl) rfl rfl (Nat.le_of_ble_eq_true rfl) (by decide) (rv_of (ci := 11) rfl rfl rfl) ?_
  refine J_if_eq (pc := 25) (tgt := 30) dX11_strongest_25 (by decide) (fun c25 => ?_) (fun c25 => absurd rfl c25)
  refine J_iconst (pc := 30) (v := -1) dX11_strongest_30 (by decide) ?_
  refine J_istore_n (pc := 31) dX11_strongest_31 (by decide) rfl ?_
  refine J_iconst (pc := 32) (v := -1) dX11_strongest_32 (by decide) ?_
  refine J_istore_n (pc := 33) dX11_strongest_33 (by decide) rfl ?_
  refine J_iconst (pc := 34) (v := 0) dX11_strongest_34 (by decide) ?_
  refine J_istore (pc := 35) dX11_strongest_35 (by decide) rfl ?_
  show J g mX11_strongest 7 [] 37 [some (.ref 59), some (.int x), some (.int (-1)), some (.int (-1)), some (.int 0)] [] (hs (w1 (S0 S) T)) sz 0 0 Q
  refine dn_ind (n := nr) (P := fun i => ∀ T, J g mX11_strongest 7 [] 37 [some (.ref 59), some (.int x), some (.int (bst (fun r => decide (sa S 535 (16 + r) ≠ -1)) (mpw S 535 nr ow m wv) (-1) i).1), some (.int (bst (fun r => decide (sa S 535 (16 + r) ≠ -1)) (mpw S 535 nr ow m wv) (-1) i).2), some (.int (ix i))] [] (hs (w1 (S0 S) T)) sz 0 0 Q) ?_ (fun i hi ih => ?_) 0 (Nat.zero_le _) _
  · intro T
    refine J_iload (pc := 37) dX11_strongest_37 rfl ?_
    refine J_aload_n (pc := 39) dX11_strongest_39 rfl ?_
    refine J_getr (pc := 40) dX11_strongest_40 kc11 fl_X11_23 rfl ?_
    refine J_iconst (pc := 43) (v := 1) dX11_strongest_43 (by decide) ?_
    refine J_il (pc := 44) dX11_strongest_44 (by first | rfl | assumption) (rfl : (1 : Int32) = nI 1) ⟨by first | decide | omega, by decide⟩ ?_
    refine J_icmp_ge (pc := 45) (tgt := 97) dX11_strongest_45 (by decide) (fun c45 => ?_) (fun c45 => absurd (ix_ge e1) c45)
    refine J_iload_n (pc := 97) dX11_strongest_97 rfl ?_
    refine J_if_ne (pc := 98) (tgt := 105) dX11_strongest_98 (by decide) (fun c98 => ?_) (fun c98 => ?_)
    · refine J_iload_n (pc := 105) dX11_strongest_105 rfl ?_
      exact J_iret (pc := 106) rfl rfl rfl dX11_strongest_106 (rqw hQ (by first | exact (if_pos c98).symm | exact (if_neg c98).symm) rfl)
    · refine J_iload_n (pc := 101) dX11_strongest_101 rfl ?_
      refine J_goto (pc := 102) (tgt := 106) dX11_strongest_102 (by decide) ?_
      exact J_iret (pc := 106) rfl rfl rfl dX11_strongest_106 (rqw hQ (by first | exact (if_pos c98).symm | exact (if_neg c98).symm) rfl)
  · intro T
    refine J_iload (pc := 37) dX11_strongest_37 rfl ?_
    refine J_aload_n (pc := 39) dX11_strongest_39 rfl ?_
    refine J_getr (pc := 40) dX11_strongest_40 kc11 fl_X11_23 rfl ?_
    refine J_iconst (pc := 43) (v := 1) dX11_strongest_43 (by decide) ?_
    refine J_il (pc := 44) dX11_strongest_44 (by first | rfl | assumption) (rfl : (1 : Int32) = nI 1) ⟨by first | decide | omega, by decide⟩ ?_
    refine J_icmp_ge (pc := 45) (tgt := 97) dX11_strongest_45 (by decide) (fun c45 => absurd c45 (ix_lt e1 hi (by omega))) (fun c45 => ?_)
    refine J_aload_n (pc := 48) dX11_strongest_48 rfl ?_
    refine J_getr (pc := 49) dX11_strongest_49 kc11 fl_X11_73 rfl ?_
    refine J_iload (pc := 52) dX11_strongest_52 rfl ?_
    refine J_t1 (ix_nI i) ?_
    refine J_csr (pc := 54) (N := mX11_isKept) dX11_strongest_54 ml_X11_267 cf_X11_isKept cs_X11_isKept (r_X11_isKept (S := w1 (S0 S) T) (r := i) row535 (by omega)) rfl rfl (Nat.le_of_ble_eq_true rfl) (by decide) ?_
    refine J_ifp_eq (pc := 57) (tgt := 91) dX11_strongest_57 (by decide) (fun c57 => ?_) (fun c57 => ?_)
    · first
        | rw [bst_f (fun q => c57 (of_decide_eq_true q.1))] at ih
        | rw [bst_f (fun q => c71 q.2)] at ih
        | rw [bst_t ⟨decide_eq_true c57, c71⟩] at ih
      refine J_iinc (pc := 91) (v := 1) dX11_strongest_91 rfl (by decide) rfl ?_
      refine J_goto (pc := 94) (tgt := 37) dX11_strongest_94 (by decide) ?_
      exact ih T
    · refine J_aload_n (pc := 60) dX11_strongest_60 rfl ?_
      refine J_aload_n (pc := 61) dX11_strongest_61 rfl ?_
      refine J_getr (pc := 62) dX11_strongest_62 kc11 fl_X11_73 rfl ?_
      refine J_iload (pc := 65) dX11_strongest_65 rfl ?_
      refine J_t1 (ix_nI i) ?_
      refine J_cvw (pc := 67) (N := mX11_power) dX11_strongest_67 ml_X11_289 cf_X11_power cv_X11_power (r_X11_power (S := S0 S) row535 hH hW hM hi) rfl rfl (Nat.le_of_ble_eq_true rfl) (by decide) (rv_of (ci := 11) rfl rfl rfl) ?_
      intro T
      refine J_iload_n (pc := 70) dX11_strongest_70 rfl ?_
      refine J_icmp_gt (pc := 71) (tgt := 77) dX11_strongest_71 (by decide) (fun c71 => ?_) (fun c71 => ?_)
      · refine J_iload (pc := 77) dX11_strongest_77 rfl ?_
        refine J_istore_n (pc := 79) dX11_strongest_79 (by decide) rfl ?_
        refine J_aload_n (pc := 80) dX11_strongest_80 rfl ?_
        refine J_aload_n (pc := 81) dX11_strongest_81 rfl ?_
        refine J_getr (pc := 82) dX11_strongest_82 kc11 fl_X11_73 rfl ?_
        refine J_iload (pc := 85) dX11_strongest_85 rfl ?_
        refine J_t1 (ix_nI i) ?_
        refine J_cvw (pc := 87) (N := mX11_power) dX11_strongest_87 ml_X11_289 cf_X11_power cv_X11_power (r_X11_power (S := S0 S) row535 hH hW hM hi) rfl rfl (Nat.le_of_ble_eq_true rfl) (by decide) (rv_of (ci := 11) rfl rfl rfl) ?_
        intro T
        refine J_istore_n (pc := 90) dX11_strongest_90 (by decide) rfl ?_
        first
          | rw [bst_f (fun q => c57 (of_decide_eq_true q.1))] at ih
          | rw [bst_f (fun q => c71 q.2)] at ih
          | rw [bst_t ⟨decide_eq_true c57, c71⟩] at ih
        refine J_iinc (pc := 91) (v := 1) dX11_strongest_91 rfl (by decide) rfl ?_
        refine J_goto (pc := 94) (tgt := 37) dX11_strongest_94 (by decide) ?_
        exact ih T
      · refine J_goto (pc := 74) (tgt := 91) dX11_strongest_74 (by decide) ?_
        first
          | rw [bst_f (fun q => c57 (of_decide_eq_true q.1))] at ih
          | rw [bst_f (fun q => c71 q.2)] at ih
          | rw [bst_t ⟨decide_eq_true c57, c71⟩] at ih
        refine J_iinc (pc := 91) (v := 1) dX11_strongest_91 rfl (by decide) rfl ?_
        refine J_goto (pc := 94) (tgt := 37) dX11_strongest_94 (by decide) ?_
        exact ih T
theorem r_X11_eldest_er {g : Gp} {S : Sx} {x : Int32} (hv : ¬ (0 ≤ x ∧ x ≤ 1)) : RT g mX11_eldest 2 [.ref 59, .int x] S (some (.int 0)) (er S 1 1) := by
  refine RT_ofQ ⟨rfl, rfl⟩ (Nat.le_of_ble_eq_true rfl) (fun sz Q hQ => ?_)
  refine J_aload_n (pc := 0) dX11_eldest_0 rfl ?_
  refine J_iconst (pc := 1) (v := 0) dX11_eldest_1 (by decide) ?_
  refine J_puti (pc := 2) dX11_eldest_2 kc11 fl_X11_103 rfl ⟨rfl, rfl⟩ ?_
  refine J_aload_n (pc := 5) dX11_eldest_5 rfl ?_
  refine J_iload_n (pc := 6) dX11_eldest_6 rfl ?_
  refine J_iconst (pc := 7) (v := 0) dX11_eldest_7 (by decide) ?_
  refine J_iconst (pc := 8) (v := 1) dX11_eldest_8 (by decide) ?_
  refine J_csr (pc := 9) (N := mX11_in) dX11_eldest_9 ml_X11_137 cf_X11_in cs_X11_in r_X11_in rfl rfl (Nat.le_of_ble_eq_true rfl) (by decide) ?_
  refine J_ifp_ne (pc := 12) (tgt := 19) dX11_eldest_12 (by decide) (fun c12 => absurd c12 hv) (fun c12 => ?_)
  refine J_iconst (pc := 15) (v := 1) dX11_eldest_15 (by decide) ?_
  refine J_goto (pc := 16) (tgt := 20) dX11_eldest_16 (by decide) ?_
  refine J_iconst (pc := 20) (v := 1) dX11_eldest_20 (by decide) ?_
  refine J_iconst (pc := 21) (v := 1) dX11_eldest_21 (by decide) ?_
  refine J_cvr (pc := 22) (N := mX11_bad) dX11_eldest_22 ml_X11_183 cf_X11_bad cv_X11_bad (r_X11_bad_t (k := 1) rfl (by decide) (by decide) rfl) rfl rfl (Nat.le_of_ble_eq_true rfl) (by decide) (rv_of (ci := 11) rfl rfl rfl) ?_
  refine J_if_eq (pc := 25) (tgt := 30) dX11_eldest_25 (by decide) (fun c25 => absurd c25 (by decide)) (fun c25 => ?_)
  refine J_iconst (pc := 28) (v := 0) dX11_eldest_28 (by decide) ?_
  exact J_iret (pc := 29) rfl rfl rfl dX11_eldest_29 (rq hQ (by first | rfl | simp [bI, *] | simp_all [bI]) rfl)
theorem r_X11_eldest {g : Gp} {S : Sx} {x : Int32} {ns nr np : Nat} {ow : Nat → Nat} (hH : MH S ns nr np ow) (hv : 0 ≤ x ∧ x ≤ 1) : RT g mX11_eldest 2 [.ref 59, .int x] S (some (.int (if x = 0 then (bst (fun _ => true) (fun r => sa S 535 (16 + r)) (-1) nr).1 else (bst (fun _ => true) (fun r => sa S 535 (16 + r)) (-1) nr).2))) (S0 S) := by
  refine RT_ofQ ⟨rfl, rfl⟩ (Nat.le_of_ble_eq_true rfl) (fun sz Q hQ => ?_)
  have hH' := hH
  obtain ⟨e0, e1, e2, l0, l1, l2, ho⟩ := hH'
  refine J_aload_n (pc := 0) dX11_eldest_0 rfl ?_
  refine J_iconst (pc := 1) (v := 0) dX11_eldest_1 (by decide) ?_
  refine J_puti (pc := 2) dX11_eldest_2 kc11 fl_X11_103 rfl ⟨rfl, rfl⟩ ?_
  refine J_aload_n (pc := 5) dX11_eldest_5 rfl ?_
  refine J_iload_n (pc := 6) dX11_eldest_6 rfl ?_
  refine J_iconst (pc := 7) (v := 0) dX11_eldest_7 (by decide) ?_
  refine J_iconst (pc := 8) (v := 1) dX11_eldest_8 (by decide) ?_
  refine J_csr (pc := 9) (N := mX11_in) dX11_eldest_9 ml_X11_137 cf_X11_in cs_X11_in r_X11_in rfl rfl (Nat.le_of_ble_eq_true rfl) (by decide) ?_
  refine J_ifp_ne (pc := 12) (tgt := 19) dX11_eldest_12 (by decide) (fun c12 => ?_) (fun c12 => absurd hv c12)
  refine J_iconst (pc := 19) (v := 0) dX11_eldest_19 (by decide) ?_
  refine J_iconst (pc := 20) (v := 1) dX11_eldest_20 (by decide) ?_
  refine J_iconst (pc := 21) (v := 1) dX11_eldest_21 (by decide) ?_
  refine J_cvr (pc := 22) (N := mX11_bad) dX11_eldest_22 ml_X11_183 cf_X11_bad cv_X11_bad (r_X11_bad_f rfl) rfl rfl (Nat.le_of_ble_eq_true rfl) (by decide) (rv_of (ci := 11) rfl rfl rfl) ?_
  refine J_if_eq (pc := 25) (tgt := 30) dX11_eldest_25 (by decide) (fun c25 => ?_) (fun c25 => absurd rfl c25)
  refine J_iconst (pc := 30) (v := -1) dX11_eldest_30 (by decide) ?_
  refine J_istore_n (pc := 31) dX11_eldest_31 (by decide) rfl ?_
  refine J_iconst (pc := 32) (v := -1) dX11_eldest_32 (by decide) ?_
  refine J_istore_n (pc := 33) dX11_eldest_33 (by decide) rfl ?_
  refine J_iconst (pc := 34) (v := 0) dX11_eldest_34 (by decide) ?_
  refine J_istore (pc := 35) dX11_eldest_35 (by decide) rfl ?_
  show J g mX11_eldest 2 [] 37 [some (.ref 59), some (.int x), some (.int (-1)), some (.int (-1)), some (.int 0)] [] (hs ((S0 S))) sz 0 0 Q
  refine dn_ind (n := nr) (P := fun i => J g mX11_eldest 2 [] 37 [some (.ref 59), some (.int x), some (.int (bst (fun _ => true) (fun r => sa S 535 (16 + r)) (-1) i).1), some (.int (bst (fun _ => true) (fun r => sa S 535 (16 + r)) (-1) i).2), some (.int (ix i))] [] (hs (S0 S)) sz 0 0 Q) ?_ (fun i hi ih => ?_) 0 (Nat.zero_le _)
  · refine J_iload (pc := 37) dX11_eldest_37 rfl ?_
    refine J_aload_n (pc := 39) dX11_eldest_39 rfl ?_
    refine J_getr (pc := 40) dX11_eldest_40 kc11 fl_X11_23 rfl ?_
    refine J_iconst (pc := 43) (v := 1) dX11_eldest_43 (by decide) ?_
    refine J_il (pc := 44) dX11_eldest_44 (by first | rfl | assumption) (rfl : (1 : Int32) = nI 1) ⟨by first | decide | omega, by decide⟩ ?_
    refine J_icmp_ge (pc := 45) (tgt := 85) dX11_eldest_45 (by decide) (fun c45 => ?_) (fun c45 => absurd (ix_ge e1) c45)
    refine J_iload_n (pc := 85) dX11_eldest_85 rfl ?_
    refine J_if_ne (pc := 86) (tgt := 93) dX11_eldest_86 (by decide) (fun c86 => ?_) (fun c86 => ?_)
    · refine J_iload_n (pc := 93) dX11_eldest_93 rfl ?_
      exact J_iret (pc := 94) rfl rfl rfl dX11_eldest_94 (rq hQ (by first | exact (if_pos c86).symm | exact (if_neg c86).symm) rfl)
    · refine J_iload_n (pc := 89) dX11_eldest_89 rfl ?_
      refine J_goto (pc := 90) (tgt := 94) dX11_eldest_90 (by decide) ?_
      exact J_iret (pc := 94) rfl rfl rfl dX11_eldest_94 (rq hQ (by first | exact (if_pos c86).symm | exact (if_neg c86).symm) rfl)
  · refine J_iload (pc := 37) dX11_eldest_37 rfl ?_
    refine J_aload_n (pc := 39) dX11_eldest_39 rfl ?_
    refine J_getr (pc := 40) dX11_eldest_40 kc11 fl_X11_23 rfl ?_
    refine J_iconst (pc := 43) (v := 1) dX11_eldest_43 (by decide) ?_
    refine J_il (pc := 44) dX11_eldest_44 (by first | rfl | assumption) (rfl : (1 : Int32) = nI 1) ⟨by first | decide | omega, by decide⟩ ?_
    refine J_icmp_ge (pc := 45) (tgt := 85) dX11_eldest_45 (by decide) (fun c45 => absurd c45 (ix_lt e1 hi (by omega))) (fun c45 => ?_)
    refine J_aload_n (pc := 48) dX11_eldest_48 rfl ?_
    refine J_getr (pc := 49) dX11_eldest_49 kc11 fl_X11_73 rfl ?_
    refine J_bipush (pc := 52) (v := 16) dX11_eldest_52 (by decide) ?_
    refine J_iload (pc := 54) dX11_eldest_54 rfl ?_
    refine J_iadd (pc := 56) dX11_eldest_56 ?_
    refine J_il (pc := 57) dX11_eldest_57 (by first | rfl | assumption) (by first | exact nI_add 16 _ | (rw [ix_nI]; exact nI_add 16 _)) ⟨by first | decide | omega, by decide⟩ ?_
    refine J_iload_n (pc := 58) dX11_eldest_58 rfl ?_
    refine J_icmp_gt (pc := 59) (tgt := 65) dX11_eldest_59 (by decide) (fun c59 => ?_) (fun c59 => ?_)
    · refine J_iload (pc := 65) dX11_eldest_65 rfl ?_
      refine J_istore_n (pc := 67) dX11_eldest_67 (by decide) rfl ?_
      refine J_aload_n (pc := 68) dX11_eldest_68 rfl ?_
      refine J_getr (pc := 69) dX11_eldest_69 kc11 fl_X11_73 rfl ?_
      refine J_bipush (pc := 72) (v := 16) dX11_eldest_72 (by decide) ?_
      refine J_iload (pc := 74) dX11_eldest_74 rfl ?_
      refine J_iadd (pc := 76) dX11_eldest_76 ?_
      refine J_il (pc := 77) dX11_eldest_77 (by first | rfl | assumption) (by first | exact nI_add 16 _ | (rw [ix_nI]; exact nI_add 16 _)) ⟨by first | decide | omega, by decide⟩ ?_
      refine J_istore_n (pc := 78) dX11_eldest_78 (by decide) rfl ?_
      first
        | rw [bst_f (fun q => c59 q.2)] at ih
        | rw [bst_t ⟨rfl, c59⟩] at ih
      refine J_iinc (pc := 79) (v := 1) dX11_eldest_79 rfl (by decide) rfl ?_
      refine J_goto (pc := 82) (tgt := 37) dX11_eldest_82 (by decide) ?_
      exact ih
    · refine J_goto (pc := 62) (tgt := 79) dX11_eldest_62 (by decide) ?_
      first
        | rw [bst_f (fun q => c59 q.2)] at ih
        | rw [bst_t ⟨rfl, c59⟩] at ih
      refine J_iinc (pc := 79) (v := 1) dX11_eldest_79 rfl (by decide) rfl ?_
      refine J_goto (pc := 82) (tgt := 37) dX11_eldest_82 (by decide) ?_
      exact ih
theorem r_X11_weakest_er {g : Gp} {S : Sx} {x : Int32} (hv : ¬ (0 ≤ x ∧ x ≤ 1)) : RT g mX11_weakest 2 [.ref 59, .int x] S (some (.int 0)) (er S 1 1) := by
  refine RT_ofQ ⟨rfl, rfl⟩ (Nat.le_of_ble_eq_true rfl) (fun sz Q hQ => ?_)
  refine J_aload_n (pc := 0) dX11_weakest_0 rfl ?_
  refine J_iconst (pc := 1) (v := 0) dX11_weakest_1 (by decide) ?_
  refine J_puti (pc := 2) dX11_weakest_2 kc11 fl_X11_103 rfl ⟨rfl, rfl⟩ ?_
  refine J_aload_n (pc := 5) dX11_weakest_5 rfl ?_
  refine J_iload_n (pc := 6) dX11_weakest_6 rfl ?_
  refine J_iconst (pc := 7) (v := 0) dX11_weakest_7 (by decide) ?_
  refine J_iconst (pc := 8) (v := 1) dX11_weakest_8 (by decide) ?_
  refine J_csr (pc := 9) (N := mX11_in) dX11_weakest_9 ml_X11_137 cf_X11_in cs_X11_in r_X11_in rfl rfl (Nat.le_of_ble_eq_true rfl) (by decide) ?_
  refine J_ifp_ne (pc := 12) (tgt := 19) dX11_weakest_12 (by decide) (fun c12 => absurd c12 hv) (fun c12 => ?_)
  refine J_iconst (pc := 15) (v := 1) dX11_weakest_15 (by decide) ?_
  refine J_goto (pc := 16) (tgt := 20) dX11_weakest_16 (by decide) ?_
  refine J_iconst (pc := 20) (v := 1) dX11_weakest_20 (by decide) ?_
  refine J_iconst (pc := 21) (v := 1) dX11_weakest_21 (by decide) ?_
  refine J_cvr (pc := 22) (N := mX11_bad) dX11_weakest_22 ml_X11_183 cf_X11_bad cv_X11_bad (r_X11_bad_t (k := 1) rfl (by decide) (by decide) rfl) rfl rfl (Nat.le_of_ble_eq_true rfl) (by decide) (rv_of (ci := 11) rfl rfl rfl) ?_
  refine J_if_eq (pc := 25) (tgt := 30) dX11_weakest_25 (by decide) (fun c25 => absurd c25 (by decide)) (fun c25 => ?_)
  refine J_iconst (pc := 28) (v := 0) dX11_weakest_28 (by decide) ?_
  exact J_iret (pc := 29) rfl rfl rfl dX11_weakest_29 (rq hQ (by first | rfl | simp [bI, *] | simp_all [bI]) rfl)
theorem r_X11_weakest {g : Gp} {S : Sx} {x : Int32} {ns nr np : Nat} {ow : Nat → Nat} (hH : MH S ns nr np ow) (hv : 0 ≤ x ∧ x ≤ 1) : RT g mX11_weakest 2 [.ref 59, .int x] S (some (.int (if x = 0 ∨ (bst (fun _ => true) (fun s => sa S 535 (8 + s)) (0) ns).1 = -1 then (bst (fun _ => true) (fun s => sa S 535 (8 + s)) (0) ns).1 else (bst (fun _ => true) (fun s => sa S 535 (8 + s)) (0) ns).2))) (S0 S) := by
  refine RT_ofQ ⟨rfl, rfl⟩ (Nat.le_of_ble_eq_true rfl) (fun sz Q hQ => ?_)
  have hH' := hH
  obtain ⟨e0, e1, e2, l0, l1, l2, ho⟩ := hH'
  refine J_aload_n (pc := 0) dX11_weakest_0 rfl ?_
  refine J_iconst (pc := 1) (v := 0) dX11_weakest_1 (by decide) ?_
  refine J_puti (pc := 2) dX11_weakest_2 kc11 fl_X11_103 rfl ⟨rfl, rfl⟩ ?_
  refine J_aload_n (pc := 5) dX11_weakest_5 rfl ?_
  refine J_iload_n (pc := 6) dX11_weakest_6 rfl ?_
  refine J_iconst (pc := 7) (v := 0) dX11_weakest_7 (by decide) ?_
  refine J_iconst (pc := 8) (v := 1) dX11_weakest_8 (by decide) ?_
  refine J_csr (pc := 9) (N := mX11_in) dX11_weakest_9 ml_X11_137 cf_X11_in cs_X11_in r_X11_in rfl rfl (Nat.le_of_ble_eq_true rfl) (by decide) ?_
  refine J_ifp_ne (pc := 12) (tgt := 19) dX11_weakest_12 (by decide) (fun c12 => ?_) (fun c12 => absurd hv c12)
  refine J_iconst (pc := 19) (v := 0) dX11_weakest_19 (by decide) ?_
  refine J_iconst (pc := 20) (v := 1) dX11_weakest_20 (by decide) ?_
  refine J_iconst (pc := 21) (v := 1) dX11_weakest_21 (by decide) ?_
  refine J_cvr (pc := 22) (N := mX11_bad) dX11_weakest_22 ml_X11_183 cf_X11_bad cv_X11_bad (r_X11_bad_f rfl) rfl rfl (Nat.le_of_ble_eq_true rfl) (by decide) (rv_of (ci := 11) rfl rfl rfl) ?_
  refine J_if_eq (pc := 25) (tgt := 30) dX11_weakest_25 (by decide) (fun c25 => ?_) (fun c25 => absurd rfl c25)
  refine J_iconst (pc := 30) (v := -1) dX11_weakest_30 (by decide) ?_
  refine J_istore_n (pc := 31) dX11_weakest_31 (by decide) rfl ?_
  refine J_iconst (pc := 32) (v := 0) dX11_weakest_32 (by decide) ?_
  refine J_istore_n (pc := 33) dX11_weakest_33 (by decide) rfl ?_
  refine J_iconst (pc := 34) (v := 0) dX11_weakest_34 (by decide) ?_
  refine J_istore (pc := 35) dX11_weakest_35 (by decide) rfl ?_
  show J g mX11_weakest 2 [] 37 [some (.ref 59), some (.int x), some (.int (-1)), some (.int (0)), some (.int 0)] [] (hs ((S0 S))) sz 0 0 Q
  refine dn_ind (n := ns) (P := fun i => J g mX11_weakest 2 [] 37 [some (.ref 59), some (.int x), some (.int (bst (fun _ => true) (fun s => sa S 535 (8 + s)) (0) i).1), some (.int (bst (fun _ => true) (fun s => sa S 535 (8 + s)) (0) i).2), some (.int (ix i))] [] (hs (S0 S)) sz 0 0 Q) ?_ (fun i hi ih => ?_) 0 (Nat.zero_le _)
  · refine J_iload (pc := 37) dX11_weakest_37 rfl ?_
    refine J_aload_n (pc := 39) dX11_weakest_39 rfl ?_
    refine J_getr (pc := 40) dX11_weakest_40 kc11 fl_X11_23 rfl ?_
    refine J_iconst (pc := 43) (v := 0) dX11_weakest_43 (by decide) ?_
    refine J_il (pc := 44) dX11_weakest_44 (by first | rfl | assumption) (rfl : (0 : Int32) = nI 0) ⟨by first | decide | omega, by decide⟩ ?_
    refine J_icmp_ge (pc := 45) (tgt := 85) dX11_weakest_45 (by decide) (fun c45 => ?_) (fun c45 => absurd (ix_ge e0) c45)
    refine J_iload_n (pc := 85) dX11_weakest_85 rfl ?_
    refine J_if_eq (pc := 86) (tgt := 94) dX11_weakest_86 (by decide) (fun c86 => ?_) (fun c86 => ?_)
    · refine J_iload_n (pc := 94) dX11_weakest_94 rfl ?_
      refine J_goto (pc := 95) (tgt := 99) dX11_weakest_95 (by decide) ?_
      exact J_iret (pc := 99) rfl rfl rfl dX11_weakest_99 (rq hQ (by first | exact (if_pos (Or.inl c86)).symm | exact (if_pos (Or.inr c91)).symm | exact (if_neg (fun q => q.elim c86 c91)).symm) rfl)
    · refine J_iload_n (pc := 89) dX11_weakest_89 rfl ?_
      refine J_iconst (pc := 90) (v := -1) dX11_weakest_90 (by decide) ?_
      refine J_icmp_ne (pc := 91) (tgt := 98) dX11_weakest_91 (by decide) (fun c91 => ?_) (fun c91 => ?_)
      · refine J_iload_n (pc := 98) dX11_weakest_98 rfl ?_
        exact J_iret (pc := 99) rfl rfl rfl dX11_weakest_99 (rq hQ (by first | exact (if_pos (Or.inl c86)).symm | exact (if_pos (Or.inr c91)).symm | exact (if_neg (fun q => q.elim c86 c91)).symm) rfl)
      · refine J_iload_n (pc := 94) dX11_weakest_94 rfl ?_
        refine J_goto (pc := 95) (tgt := 99) dX11_weakest_95 (by decide) ?_
        exact J_iret (pc := 99) rfl rfl rfl dX11_weakest_99 (rq hQ (by first | exact (if_pos (Or.inl c86)).symm | exact (if_pos (Or.inr c91)).symm | exact (if_neg (fun q => q.elim c86 c91)).symm) rfl)
  · refine J_iload (pc := 37) dX11_weakest_37 rfl ?_
    refine J_aload_n (pc := 39) dX11_weakest_39 rfl ?_
    refine J_getr (pc := 40) dX11_weakest_40 kc11 fl_X11_23 rfl ?_
    refine J_iconst (pc := 43) (v := 0) dX11_weakest_43 (by decide) ?_
    refine J_il (pc := 44) dX11_weakest_44 (by first | rfl | assumption) (rfl : (0 : Int32) = nI 0) ⟨by first | decide | omega, by decide⟩ ?_
    refine J_icmp_ge (pc := 45) (tgt := 85) dX11_weakest_45 (by decide) (fun c45 => absurd c45 (ix_lt e0 hi (by omega))) (fun c45 => ?_)
    refine J_aload_n (pc := 48) dX11_weakest_48 rfl ?_
    refine J_getr (pc := 49) dX11_weakest_49 kc11 fl_X11_73 rfl ?_
    refine J_bipush (pc := 52) (v := 8) dX11_weakest_52 (by decide) ?_
    refine J_iload (pc := 54) dX11_weakest_54 rfl ?_
    refine J_iadd (pc := 56) dX11_weakest_56 ?_
    refine J_il (pc := 57) dX11_weakest_57 (by first | rfl | assumption) (by first | exact nI_add 8 _ | (rw [ix_nI]; exact nI_add 8 _)) ⟨by first | decide | omega, by decide⟩ ?_
    refine J_iload_n (pc := 58) dX11_weakest_58 rfl ?_
    refine J_icmp_gt (pc := 59) (tgt := 65) dX11_weakest_59 (by decide) (fun c59 => ?_) (fun c59 => ?_)
    · refine J_iload (pc := 65) dX11_weakest_65 rfl ?_
      refine J_istore_n (pc := 67) dX11_weakest_67 (by decide) rfl ?_
      refine J_aload_n (pc := 68) dX11_weakest_68 rfl ?_
      refine J_getr (pc := 69) dX11_weakest_69 kc11 fl_X11_73 rfl ?_
      refine J_bipush (pc := 72) (v := 8) dX11_weakest_72 (by decide) ?_
      refine J_iload (pc := 74) dX11_weakest_74 rfl ?_
      refine J_iadd (pc := 76) dX11_weakest_76 ?_
      refine J_il (pc := 77) dX11_weakest_77 (by first | rfl | assumption) (by first | exact nI_add 8 _ | (rw [ix_nI]; exact nI_add 8 _)) ⟨by first | decide | omega, by decide⟩ ?_
      refine J_istore_n (pc := 78) dX11_weakest_78 (by decide) rfl ?_
      first
        | rw [bst_f (fun q => c59 q.2)] at ih
        | rw [bst_t ⟨rfl, c59⟩] at ih
      refine J_iinc (pc := 79) (v := 1) dX11_weakest_79 rfl (by decide) rfl ?_
      refine J_goto (pc := 82) (tgt := 37) dX11_weakest_82 (by decide) ?_
      exact ih
    · refine J_goto (pc := 62) (tgt := 79) dX11_weakest_62 (by decide) ?_
      first
        | rw [bst_f (fun q => c59 q.2)] at ih
        | rw [bst_t ⟨rfl, c59⟩] at ih
      refine J_iinc (pc := 79) (v := 1) dX11_weakest_79 rfl (by decide) rfl ?_
      refine J_goto (pc := 82) (tgt := 37) dX11_weakest_82 (by decide) ?_
      exact ih
