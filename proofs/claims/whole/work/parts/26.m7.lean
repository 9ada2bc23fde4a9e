theorem r_X11_dayEnds {g : Gp} {S : Sx} {a ns nr np : Nat} {ow : Nat → Nat} (ha : isRow a) (hH : MH S ns nr np ow) : RT g mX11_dayEnds 1 [.ref 59, .ref a] S none (dyE S a nr) := by
  refine RT_ofQ ⟨rfl, rfl⟩ (Nat.le_of_ble_eq_true rfl) (fun sz Q hQ => ?_)
  have hH' := hH
  obtain ⟨e0, e1, e2, l0, l1, l2, ho⟩ := hH'
  refine J_iconst (pc := 0) (v := 0) dX11_dayEnds_0 (by decide) ?_
  refine J_istore_n (pc := 1) dX11_dayEnds_1 (by decide) rfl ?_
  show J g mX11_dayEnds 1 [] 2 [some (.ref 59), some (.ref a), some (.int 0)] [] (hs S) sz 0 0 Q
  refine dn_ind (n := nr) (P := fun i => J g mX11_dayEnds 1 [] 2 [some (.ref 59), some (.ref a), some (.int (ix i))] [] (hs (dyS S a i)) sz 0 0 Q) ?_ (fun i hi ih => ?_) 0 (Nat.zero_le _)
  · have e1 := (dyS_MH ha hH nr).2.1
    refine J_iload_n (pc := 2) dX11_dayEnds_2 rfl ?_
    refine J_aload_n (pc := 3) dX11_dayEnds_3 rfl ?_
    refine J_getr (pc := 4) dX11_dayEnds_4 kc11 fl_X11_23 rfl ?_
    refine J_iconst (pc := 7) (v := 1) dX11_dayEnds_7 (by decide) ?_
    refine J_il (pc := 8) dX11_dayEnds_8 (by first | rfl | assumption) (rfl : (1 : Int32) = nI 1) ⟨by first | decide | omega, by decide⟩ ?_
    refine J_icmp_ge (pc := 9) (tgt := 47) dX11_dayEnds_9 (by decide) (fun c9 => ?_) (fun c9 => absurd (ix_ge e1) c9)
    refine J_aload_n (pc := 47) dX11_dayEnds_47 rfl ?_
    refine J_bipush (pc := 48) (v := 44) dX11_dayEnds_48 (by decide) ?_
    refine J_dup2 (pc := 50) dX11_dayEnds_50 rfl rfl ?_
    refine J_il (pc := 51) dX11_dayEnds_51 (by first | rfl | assumption) (rfl : (44 : Int32) = nI 44) ⟨by first | decide | omega, by decide⟩ ?_
    refine J_iconst (pc := 52) (v := 1) dX11_dayEnds_52 (by decide) ?_
    refine J_iadd (pc := 53) dX11_dayEnds_53 ?_
    refine J_is (pc := 54) dX11_dayEnds_54 (by first | rfl | assumption) (rfl : (44 : Int32) = nI 44) ⟨by first | decide | omega, by decide⟩ ?_
    exact J_ret (pc := 55) rfl rfl dX11_dayEnds_55 (rqv hQ rfl)
  · have hHi := dyS_MH ha hH i
    have e1 := hHi.2.1
    refine J_iload_n (pc := 2) dX11_dayEnds_2 rfl ?_
    refine J_aload_n (pc := 3) dX11_dayEnds_3 rfl ?_
    refine J_getr (pc := 4) dX11_dayEnds_4 kc11 fl_X11_23 rfl ?_
    refine J_iconst (pc := 7) (v := 1) dX11_dayEnds_7 (by decide) ?_
    refine J_il (pc := 8) dX11_dayEnds_8 (by first | rfl | assumption) (rfl : (1 : Int32) = nI 1) ⟨by first | decide | omega, by decide⟩ ?_
    refine J_icmp_ge (pc := 9) (tgt := 47) dX11_dayEnds_9 (by decide) (fun c9 => absurd c9 (ix_lt e1 hi (by omega))) (fun c9 => ?_)
    refine J_aload_n (pc := 12) dX11_dayEnds_12 rfl ?_
    refine J_bipush (pc := 13) (v := 16) dX11_dayEnds_13 (by decide) ?_
    refine J_iload_n (pc := 15) dX11_dayEnds_15 rfl ?_
    refine J_iadd (pc := 16) dX11_dayEnds_16 ?_
    refine J_dup2 (pc := 17) dX11_dayEnds_17 rfl rfl ?_
    refine J_il (pc := 18) dX11_dayEnds_18 (by first | rfl | assumption) (by first | exact nI_add 16 _ | (rw [ix_nI]; exact nI_add 16 _)) ⟨by first | decide | omega, by decide⟩ ?_
    refine J_aload_n (pc := 19) dX11_dayEnds_19 rfl ?_
    refine J_iload_n (pc := 20) dX11_dayEnds_20 rfl ?_
    refine J_t1 (ix_nI i) ?_
    refine J_csr (pc := 21) (N := mX11_isKept) dX11_dayEnds_21 ml_X11_267 cf_X11_isKept cs_X11_isKept (r_X11_isKept (r := i) ha (by omega)) rfl rfl (Nat.le_of_ble_eq_true rfl) (by decide) ?_
    refine J_mid1 32 (if sa (dyS S a i) a (16 + i) ≠ -1 then 1 else 0) ?_ (fun hj24 => ?_)
    · refine J_iadd (pc := 32) dX11_dayEnds_32 ?_
      refine J_is (pc := 33) dX11_dayEnds_33 (by first | rfl | assumption) (by rw [ix_nI]; exact nI_add 16 i) ⟨by first | decide | omega, by decide⟩ ?_
      refine J_aload_n (pc := 34) dX11_dayEnds_34 rfl ?_
      refine J_bipush (pc := 35) (v := 26) dX11_dayEnds_35 (by decide) ?_
      refine J_iload_n (pc := 37) dX11_dayEnds_37 rfl ?_
      refine J_iadd (pc := 38) dX11_dayEnds_38 ?_
      refine J_iconst (pc := 39) (v := 0) dX11_dayEnds_39 (by decide) ?_
      refine J_is (pc := 40) dX11_dayEnds_40 (by first | rfl | assumption) (by first | exact nI_add 26 _ | (rw [ix_nI]; exact nI_add 26 _)) ⟨by first | decide | omega, by decide⟩ ?_
      refine J_iinc (pc := 41) (v := 1) dX11_dayEnds_41 rfl (by decide) rfl ?_
      refine J_goto (pc := 44) (tgt := 2) dX11_dayEnds_44 (by decide) ?_
      exact ih
    · refine J_ifp_eq (pc := 24) (tgt := 31) dX11_dayEnds_24 (by decide) (fun c24 => ?_) (fun c24 => ?_)
      · refine J_iconst (pc := 31) (v := 0) dX11_dayEnds_31 (by decide) ?_
        exact hj24 _ (by first | exact (if_pos c24).symm | exact (if_neg c24).symm)
      · refine J_iconst (pc := 27) (v := 1) dX11_dayEnds_27 (by decide) ?_
        refine J_goto (pc := 28) (tgt := 32) dX11_dayEnds_28 (by decide) ?_
        exact hj24 _ (by first | exact (if_pos c24).symm | exact (if_neg c24).symm)
theorem r_X11_copies {g : Gp} {S : Sx} {a b : Nat} (ha : isRow a) (hb : isRow b) : RT g mX11_copies 0 [.ref b, .ref a] S none (cpS S b a 45) := by
  refine RT_ofQ ⟨rfl, rfl⟩ (Nat.le_of_ble_eq_true rfl) (fun sz Q hQ => ?_)
  refine J_iconst (pc := 0) (v := 0) dX11_copies_0 (by decide) ?_
  refine J_istore_n (pc := 1) dX11_copies_1 (by decide) rfl ?_
  show J g mX11_copies 0 [] 2 [some (.ref b), some (.ref a), some (.int 0)] [] (hs S) sz 0 0 Q
  refine dn_ind (n := 45) (P := fun i => J g mX11_copies 0 [] 2 [some (.ref b), some (.ref a), some (.int (ix i))] [] (hs (cpS S b a i)) sz 0 0 Q) ?_ (fun i hi ih => ?_) 0 (Nat.zero_le _)
  · refine J_iload_n (pc := 2) dX11_copies_2 rfl ?_
    refine J_bipush (pc := 3) (v := 45) dX11_copies_3 (by decide) ?_
    refine J_icmp_ge (pc := 5) (tgt := 20) dX11_copies_5 (by decide) (fun c5 => ?_) (fun c5 => absurd (ix_ge (n := 45) rfl) c5)
    exact J_ret (pc := 20) rfl rfl dX11_copies_20 (rqv hQ rfl)
  · refine J_iload_n (pc := 2) dX11_copies_2 rfl ?_
    refine J_bipush (pc := 3) (v := 45) dX11_copies_3 (by decide) ?_
    refine J_icmp_ge (pc := 5) (tgt := 20) dX11_copies_5 (by decide) (fun c5 => absurd c5 (ix_lt (n := 45) rfl hi (by decide))) (fun c5 => ?_)
    refine J_aload_n (pc := 8) dX11_copies_8 rfl ?_
    refine J_iload_n (pc := 9) dX11_copies_9 rfl ?_
    refine J_aload_n (pc := 10) dX11_copies_10 rfl ?_
    refine J_iload_n (pc := 11) dX11_copies_11 rfl ?_
    refine J_il (pc := 12) dX11_copies_12 (by first | rfl | assumption) (by first | with_reducible rfl | assumption | exact ix_nI _ | rfl) ⟨by first | decide | omega, by decide⟩ ?_
    refine J_is (pc := 13) dX11_copies_13 (by first | rfl | assumption) (by first | with_reducible rfl | assumption | exact ix_nI _ | rfl) ⟨by first | decide | omega, by decide⟩ ?_
    refine J_iinc (pc := 14) (v := 1) dX11_copies_14 rfl (by decide) rfl ?_
    refine J_goto (pc := 17) (tgt := 2) dX11_copies_17 (by decide) ?_
    exact ih
theorem r_X11_powersIn {g : Gp} {S : Sx} {a ns nr np m : Nat} {ow : Nat → Nat} {wv : Nat → Nat × Nat} (ha : isRow a) (hH : MH S ns nr np ow) (hW : LawW m wv) (hM : LawM S m wv) : RW g mX11_powersIn 6 [.ref 59, .ref a] S (some (.int (sm (mpw S a nr ow m wv) nr))) S := by
  refine RW_ofQ ⟨rfl, rfl⟩ (Nat.le_of_ble_eq_true rfl) (fun T sz Q hQ => ?_)
  have hH' := hH
  obtain ⟨e0, e1, e2, l0, l1, l2, ho⟩ := hH'
  refine J_iconst (pc := 0) (v := 0) dX11_powersIn_0 (by decide) ?_
  refine J_istore_n (pc := 1) dX11_powersIn_1 (by decide) rfl ?_
  refine J_iconst (pc := 2) (v := 0) dX11_powersIn_2 (by decide) ?_
  refine J_istore_n (pc := 3) dX11_powersIn_3 (by decide) rfl ?_
  show J g mX11_powersIn 6 [] 4 [some (.ref 59), some (.ref a), some (.int 0), some (.int 0)] [] (hs (w1 S T)) sz 0 0 Q
  refine dn_ind (n := nr) (P := fun i => ∀ T, J g mX11_powersIn 6 [] 4 [some (.ref 59), some (.ref a), some (.int (sm (mpw S a nr ow m wv) i)), some (.int (ix i))] [] (hs (w1 S T)) sz 0 0 Q) ?_ (fun i hi ih => ?_) 0 (Nat.zero_le _) _
  · intro T
    refine J_iload_n (pc := 4) dX11_powersIn_4 rfl ?_
    refine J_aload_n (pc := 5) dX11_powersIn_5 rfl ?_
    refine J_getr (pc := 6) dX11_powersIn_6 kc11 fl_X11_23 rfl ?_
    refine J_iconst (pc := 9) (v := 1) dX11_powersIn_9 (by decide) ?_
    refine J_il (pc := 10) dX11_powersIn_10 (by first | rfl | assumption) (rfl : (1 : Int32) = nI 1) ⟨by first | decide | omega, by decide⟩ ?_
    refine J_icmp_ge (pc := 11) (tgt := 29) dX11_powersIn_11 (by decide) (fun c11 => ?_) (fun c11 => absurd (ix_ge e1) c11)
    refine J_iload_n (pc := 29) dX11_powersIn_29 rfl ?_
    exact J_iret (pc := 30) rfl rfl rfl dX11_powersIn_30 (rqw hQ (by first | rfl | simp [bI, *] | simp_all [bI]) rfl)
  · intro T
    refine J_iload_n (pc := 4) dX11_powersIn_4 rfl ?_
    refine J_aload_n (pc := 5) dX11_powersIn_5 rfl ?_
    refine J_getr (pc := 6) dX11_powersIn_6 kc11 fl_X11_23 rfl ?_
    refine J_iconst (pc := 9) (v := 1) dX11_powersIn_9 (by decide) ?_
    refine J_il (pc := 10) dX11_powersIn_10 (by first | rfl | assumption) (rfl : (1 : Int32) = nI 1) ⟨by first | decide | omega, by decide⟩ ?_
    refine J_icmp_ge (pc := 11) (tgt := 29) dX11_powersIn_11 (by decide) (fun c11 => absurd c11 (ix_lt e1 hi (by omega))) (fun c11 => ?_)
    refine J_iload_n (pc := 14) dX11_powersIn_14 rfl ?_
    refine J_aload_n (pc := 15) dX11_powersIn_15 rfl ?_
    refine J_aload_n (pc := 16) dX11_powersIn_16 rfl ?_
    refine J_iload_n (pc := 17) dX11_powersIn_17 rfl ?_
    refine J_t1 (ix_nI i) ?_
    refine J_cvw (pc := 18) (N := mX11_power) dX11_powersIn_18 ml_X11_289 cf_X11_power cv_X11_power (r_X11_power ha hH hW hM hi) rfl rfl (Nat.le_of_ble_eq_true rfl) (by decide) (rv_of (ci := 11) rfl rfl rfl) ?_
    intro T
    refine J_iadd (pc := 21) dX11_powersIn_21 ?_
    refine J_istore_n (pc := 22) dX11_powersIn_22 (by decide) rfl ?_
    refine J_iinc (pc := 23) (v := 1) dX11_powersIn_23 rfl (by decide) rfl ?_
    refine J_goto (pc := 26) (tgt := 4) dX11_powersIn_26 (by decide) ?_
    exact ih T
def mcu (S : Sx) (a np : Nat) : Int32 := msk (fun p => decide (sa S a (36 + p) ≠ -1)) np
theorem r_X11_curedIn {g : Gp} {S : Sx} {a ns nr np : Nat} {ow : Nat → Nat} (ha : isRow a) (hH : MH S ns nr np ow) : RT g mX11_curedIn 1 [.ref 59, .ref a] S (some (.int (mcu S a np))) S := by
  refine RT_ofQ ⟨rfl, rfl⟩ (Nat.le_of_ble_eq_true rfl) (fun sz Q hQ => ?_)
  have hH' := hH
  obtain ⟨e0, e1, e2, l0, l1, l2, ho⟩ := hH'
  refine J_iconst (pc := 0) (v := 0) dX11_curedIn_0 (by decide) ?_
  refine J_istore_n (pc := 1) dX11_curedIn_1 (by decide) rfl ?_
  refine J_iconst (pc := 2) (v := 0) dX11_curedIn_2 (by decide) ?_
  refine J_istore_n (pc := 3) dX11_curedIn_3 (by decide) rfl ?_
  show J g mX11_curedIn 1 [] 4 [some (.ref 59), some (.ref a), some (.int 0), some (.int 0)] [] (hs S) sz 0 0 Q
  refine dn_ind (n := np) (P := fun i => J g mX11_curedIn 1 [] 4 [some (.ref 59), some (.ref a), some (.int (msk (fun p => decide (sa S a (36 + p) ≠ -1)) i)), some (.int (ix i))] [] (hs S) sz 0 0 Q) ?_ (fun i hi ih => ?_) 0 (Nat.zero_le _)
  · refine J_iload_n (pc := 4) dX11_curedIn_4 rfl ?_
    refine J_aload_n (pc := 5) dX11_curedIn_5 rfl ?_
    refine J_getr (pc := 6) dX11_curedIn_6 kc11 fl_X11_23 rfl ?_
    refine J_iconst (pc := 9) (v := 2) dX11_curedIn_9 (by decide) ?_
    refine J_il (pc := 10) dX11_curedIn_10 (by first | rfl | assumption) (rfl : (2 : Int32) = nI 2) ⟨by first | decide | omega, by decide⟩ ?_
    refine J_icmp_ge (pc := 11) (tgt := 40) dX11_curedIn_11 (by decide) (fun c11 => ?_) (fun c11 => absurd (ix_ge e2) c11)
    refine J_iload_n (pc := 40) dX11_curedIn_40 rfl ?_
    exact J_iret (pc := 41) rfl rfl rfl dX11_curedIn_41 (rq hQ (by first | rfl | simp [bI, *] | simp_all [bI]) rfl)
  · refine J_iload_n (pc := 4) dX11_curedIn_4 rfl ?_
    refine J_aload_n (pc := 5) dX11_curedIn_5 rfl ?_
    refine J_getr (pc := 6) dX11_curedIn_6 kc11 fl_X11_23 rfl ?_
    refine J_iconst (pc := 9) (v := 2) dX11_curedIn_9 (by decide) ?_
    refine J_il (pc := 10) dX11_curedIn_10 (by first | rfl | assumption) (rfl : (2 : Int32) = nI 2) ⟨by first | decide | omega, by decide⟩ ?_
    refine J_icmp_ge (pc := 11) (tgt := 40) dX11_curedIn_11 (by decide) (fun c11 => absurd c11 (ix_lt e2 hi (by omega))) (fun c11 => ?_)
    refine J_iload_n (pc := 14) dX11_curedIn_14 rfl ?_
    refine J_aload_n (pc := 15) dX11_curedIn_15 rfl ?_
    refine J_bipush (pc := 16) (v := 36) dX11_curedIn_16 (by decide) ?_
    refine J_iload_n (pc := 18) dX11_curedIn_18 rfl ?_
    refine J_iadd (pc := 19) dX11_curedIn_19 ?_
    refine J_il (pc := 20) dX11_curedIn_20 (by first | rfl | assumption) (by first | exact nI_add 36 _ | (rw [ix_nI]; exact nI_add 36 _)) ⟨by first | decide | omega, by decide⟩ ?_
    refine J_iconst (pc := 21) (v := -1) dX11_curedIn_21 (by decide) ?_
    refine J_icmp_ne (pc := 22) (tgt := 29) dX11_curedIn_22 (by decide) (fun c22 => ?_) (fun c22 => ?_)
    · refine J_iconst (pc := 29) (v := 1) dX11_curedIn_29 (by decide) ?_
      refine J_iload_n (pc := 30) dX11_curedIn_30 rfl ?_
      refine J_ishl (pc := 31) dX11_curedIn_31 ?_
      refine J_ior (pc := 32) dX11_curedIn_32 ?_
      refine J_t1 (y := msk (fun p => decide (sa S a (36 + p) ≠ -1)) (i + 1)) (by first | (refine msk_t ?_; simp [c22]; done) | (refine msk_f ?_; simp [c22]; done)) ?_
      refine J_istore_n (pc := 33) dX11_curedIn_33 (by decide) rfl ?_
      refine J_iinc (pc := 34) (v := 1) dX11_curedIn_34 rfl (by decide) rfl ?_
      refine J_goto (pc := 37) (tgt := 4) dX11_curedIn_37 (by decide) ?_
      exact ih
    · refine J_iconst (pc := 25) (v := 0) dX11_curedIn_25 (by decide) ?_
      refine J_goto (pc := 26) (tgt := 32) dX11_curedIn_26 (by decide) ?_
      refine J_ior (pc := 32) dX11_curedIn_32 ?_
      refine J_t1 (y := msk (fun p => decide (sa S a (36 + p) ≠ -1)) (i + 1)) (by first | (refine msk_t ?_; simp [c22]; done) | (refine msk_f ?_; simp [c22]; done)) ?_
      refine J_istore_n (pc := 33) dX11_curedIn_33 (by decide) rfl ?_
      refine J_iinc (pc := 34) (v := 1) dX11_curedIn_34 rfl (by decide) rfl ?_
      refine J_goto (pc := 37) (tgt := 4) dX11_curedIn_37 (by decide) ?_
      exact ih
theorem r_X11_isSister {g : Gp} {S : Sx} {x : Int32} {ns nr np : Nat} {ow : Nat → Nat} (hH : MH S ns nr np ow) : RT g mX11_isSister 1 [.ref 59, .int x] S (some (.int (bI (decide (0 ≤ x ∧ x ≤ nI ns - 1))))) S := by
  refine RT_ofQ ⟨rfl, rfl⟩ (Nat.le_of_ble_eq_true rfl) (fun sz Q hQ => ?_)
  have hH' := hH
  obtain ⟨e0, e1, e2, l0, l1, l2, ho⟩ := hH'
  refine J_iload_n (pc := 0) dX11_isSister_0 rfl ?_
  refine J_iconst (pc := 1) (v := 0) dX11_isSister_1 (by decide) ?_
  refine J_aload_n (pc := 2) dX11_isSister_2 rfl ?_
  refine J_getr (pc := 3) dX11_isSister_3 kc11 fl_X11_23 rfl ?_
  refine J_iconst (pc := 6) (v := 0) dX11_isSister_6 (by decide) ?_
  refine J_il (pc := 7) dX11_isSister_7 (by first | rfl | assumption) (rfl : (0 : Int32) = nI 0) ⟨by first | decide | omega, by decide⟩ ?_
  refine J_t1 e0 ?_
  refine J_iconst (pc := 8) (v := 1) dX11_isSister_8 (by decide) ?_
  refine J_isub (pc := 9) dX11_isSister_9 ?_
  refine J_csr (pc := 10) (N := mX11_in) dX11_isSister_10 ml_X11_137 cf_X11_in cs_X11_in r_X11_in rfl rfl (Nat.le_of_ble_eq_true rfl) (by decide) ?_
  exact J_iret (pc := 13) rfl rfl (bI_01 _) dX11_isSister_13 (rq hQ rfl rfl)
theorem r_X11_isRelic {g : Gp} {S : Sx} {x : Int32} {ns nr np : Nat} {ow : Nat → Nat} (hH : MH S ns nr np ow) : RT g mX11_isRelic 1 [.ref 59, .int x] S (some (.int (bI (decide (0 ≤ x ∧ x ≤ nI nr - 1))))) S := by
  refine RT_ofQ ⟨rfl, rfl⟩ (Nat.le_of_ble_eq_true rfl) (fun sz Q hQ => ?_)
  have hH' := hH
  obtain ⟨e0, e1, e2, l0, l1, l2, ho⟩ := hH'
  refine J_iload_n (pc := 0) dX11_isRelic_0 rfl ?_
  refine J_iconst (pc := 1) (v := 0) dX11_isRelic_1 (by decide) ?_
  refine J_aload_n (pc := 2) dX11_isRelic_2 rfl ?_
  refine J_getr (pc := 3) dX11_isRelic_3 kc11 fl_X11_23 rfl ?_
  refine J_iconst (pc := 6) (v := 1) dX11_isRelic_6 (by decide) ?_
  refine J_il (pc := 7) dX11_isRelic_7 (by first | rfl | assumption) (rfl : (1 : Int32) = nI 1) ⟨by first | decide | omega, by decide⟩ ?_
  refine J_t1 e1 ?_
  refine J_iconst (pc := 8) (v := 1) dX11_isRelic_8 (by decide) ?_
  refine J_isub (pc := 9) dX11_isRelic_9 ?_
  refine J_csr (pc := 10) (N := mX11_in) dX11_isRelic_10 ml_X11_137 cf_X11_in cs_X11_in r_X11_in rfl rfl (Nat.le_of_ble_eq_true rfl) (by decide) ?_
  exact J_iret (pc := 13) rfl rfl (bI_01 _) dX11_isRelic_13 (rq hQ rfl rfl)
theorem r_X11_isPerson {g : Gp} {S : Sx} {x : Int32} {ns nr np : Nat} {ow : Nat → Nat} (hH : MH S ns nr np ow) : RT g mX11_isPerson 1 [.ref 59, .int x] S (some (.int (bI (decide (0 ≤ x ∧ x ≤ nI np - 1))))) S := by
  refine RT_ofQ ⟨rfl, rfl⟩ (Nat.le_of_ble_eq_true rfl) (fun sz Q hQ => ?_)
  have hH' := hH
  obtain ⟨e0, e1, e2, l0, l1, l2, ho⟩ := hH'
  refine J_iload_n (pc := 0) dX11_isPerson_0 rfl ?_
  refine J_iconst (pc := 1) (v := 0) dX11_isPerson_1 (by decide) ?_
  refine J_aload_n (pc := 2) dX11_isPerson_2 rfl ?_
  refine J_getr (pc := 3) dX11_isPerson_3 kc11 fl_X11_23 rfl ?_
  refine J_iconst (pc := 6) (v := 2) dX11_isPerson_6 (by decide) ?_
  refine J_il (pc := 7) dX11_isPerson_7 (by first | rfl | assumption) (rfl : (2 : Int32) = nI 2) ⟨by first | decide | omega, by decide⟩ ?_
  refine J_t1 e2 ?_
  refine J_iconst (pc := 8) (v := 1) dX11_isPerson_8 (by decide) ?_
  refine J_isub (pc := 9) dX11_isPerson_9 ?_
  refine J_csr (pc := 10) (N := mX11_in) dX11_isPerson_10 ml_X11_137 cf_X11_in cs_X11_in r_X11_in rfl rfl (Nat.le_of_ble_eq_true rfl) (by decide) ?_
  exact J_iret (pc := 13) rfl rfl (bI_01 _) dX11_isPerson_13 (rq hQ rfl rfl)
theorem r_X11_bad_f {g : Gp} {S : Sx} {w r : Int32} (h0 : sf S 59 0 = 0) : RT g mX11_bad 0 [.ref 59, .int 0, .int w, .int r] S (some (.int 0)) S := by
  refine RT_ofQ ⟨rfl, rfl⟩ (Nat.le_of_ble_eq_true rfl) (fun sz Q hQ => ?_)
  refine J_iload_n (pc := 0) dX11_bad_0 rfl ?_
  refine J_if_eq (pc := 1) (tgt := 26) dX11_bad_1 (by decide) (fun c1 => ?_) (fun c1 => absurd rfl c1)
  refine J_aload_n (pc := 26) dX11_bad_26 rfl ?_
  refine J_geti (pc := 27) dX11_bad_27 kc11 fl_X11_103 rfl ?_
  refine J_if_eq (pc := 30) (tgt := 37) dX11_bad_30 (by decide) (fun c30 => ?_) (fun c30 => absurd h0 c30)
  refine J_iconst (pc := 37) (v := 0) dX11_bad_37 (by decide) ?_
  exact J_iret (pc := 38) rfl rfl rfl dX11_bad_38 (rq hQ (by first | rfl | simp [bI, *] | simp_all [bI]) rfl)
theorem r_X11_bad_t {g : Gp} {S : Sx} {w r : Int32} {k : Nat} (hr : r = nI k) (hk : k < 2) (hw : ¬ w = 0) (h0 : sf S 59 0 = 0) : RT g mX11_bad 0 [.ref 59, .int 1, .int w, .int r] S (some (.int 1)) (sA (sF S 59 0 w) 61 k (sa S 61 k + 1)) := by
  refine RT_ofQ ⟨rfl, rfl⟩ (Nat.le_of_ble_eq_true rfl) (fun sz Q hQ => ?_)
  refine J_iload_n (pc := 0) dX11_bad_0 rfl ?_
  refine J_if_eq (pc := 1) (tgt := 26) dX11_bad_1 (by decide) (fun c1 => absurd c1 (by decide)) (fun c1 => ?_)
  refine J_aload_n (pc := 4) dX11_bad_4 rfl ?_
  refine J_geti (pc := 5) dX11_bad_5 kc11 fl_X11_103 rfl ?_
  refine J_if_ne (pc := 8) (tgt := 26) dX11_bad_8 (by decide) (fun c8 => absurd h0 c8) (fun c8 => ?_)
  refine J_aload_n (pc := 11) dX11_bad_11 rfl ?_
  refine J_iload_n (pc := 12) dX11_bad_12 rfl ?_
  refine J_puti (pc := 13) dX11_bad_13 kc11 fl_X11_103 rfl ⟨rfl, rfl⟩ ?_
  refine J_aload_n (pc := 16) dX11_bad_16 rfl ?_
  refine J_getr (pc := 17) dX11_bad_17 kc11 fl_X11_17 rfl ?_
  refine J_iload_n (pc := 20) dX11_bad_20 rfl ?_
  refine J_dup2 (pc := 21) dX11_bad_21 rfl rfl ?_
  refine J_il (pc := 22) dX11_bad_22 (by first | rfl | assumption) hr ⟨by first | decide | omega, by decide⟩ ?_
  refine J_iconst (pc := 23) (v := 1) dX11_bad_23 (by decide) ?_
  refine J_iadd (pc := 24) dX11_bad_24 ?_
  refine J_is (pc := 25) dX11_bad_25 (by first | rfl | assumption) hr ⟨by first | decide | omega, by decide⟩ ?_
  refine J_aload_n (pc := 26) dX11_bad_26 rfl ?_
  refine J_geti (pc := 27) dX11_bad_27 kc11 fl_X11_103 rfl ?_
  refine J_if_eq (pc := 30) (tgt := 37) dX11_bad_30 (by decide) (fun c30 => absurd c30 hw) (fun c30 => ?_)
  refine J_iconst (pc := 33) (v := 1) dX11_bad_33 (by decide) ?_
  refine J_goto (pc := 34) (tgt := 38) dX11_bad_34 (by decide) ?_
  exact J_iret (pc := 38) rfl rfl rfl dX11_bad_38 (rq hQ (by first | rfl | simp [bI, *] | simp_all [bI]) rfl)
