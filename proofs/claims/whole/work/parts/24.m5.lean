def mab (S : Sx) (a nr : Nat) (ow : Nat → Nat) (m : Nat) (wv : Nat → Nat × Nat) (r p : Nat) : Prop := sa S (80 + r) 1 = sa S (100 + p) 0 ∧ sa S (100 + p) 1 ≤ mpw S a nr ow m wv r
def mcc (S : Sx) (a nr : Nat) (ow : Nat → Nat) (m : Nat) (wv : Nat → Nat × Nat) (r p : Nat) : Prop := sa S a (36 + p) = -1 ∧ sa S a (26 + r) = 0 ∧ mab S a nr ow m wv r p
theorem r_X11_isAble {g : Gp} {S : Sx} {a r p ns nr np m : Nat} {ow : Nat → Nat} {wv : Nat → Nat × Nat} (ha : isRow a) (hH : MH S ns nr np ow) (hW : LawW m wv) (hM : LawM S m wv) (hr : r < nr) (hp : p < np) : RW g mX11_isAble 6 [.ref 59, .ref a, .int (nI r), .int (nI p)] S (some (.int (bI (decide (sa S (80 + r) 1 = sa S (100 + p) 0 ∧ sa S (100 + p) 1 ≤ mpw S a nr ow m wv r))))) S := by
  refine RW_ofQ ⟨rfl, rfl⟩ (Nat.le_of_ble_eq_true rfl) (fun T sz Q hQ => ?_)
  have hH' := hH
  obtain ⟨e0, e1, e2, l0, l1, l2, ho⟩ := hH'
  refine J_aload_n (pc := 0) dX11_isAble_0 rfl ?_
  refine J_getr (pc := 1) dX11_isAble_1 kc11 fl_X11_43 rfl ?_
  refine J_iload_n (pc := 4) dX11_isAble_4 rfl ?_
  refine J_ar1 (pc := 5) dX11_isAble_5 rfl (by first | with_reducible rfl | assumption | exact ix_nI _ | rfl) ⟨by first | decide | omega, by decide⟩ ?_
  refine J_iconst (pc := 6) (v := 1) dX11_isAble_6 (by decide) ?_
  refine J_il (pc := 7) dX11_isAble_7 (lay_relic (by omega)) (rfl : (1 : Int32) = nI 1) ⟨by first | decide | omega, by decide⟩ ?_
  refine J_aload_n (pc := 8) dX11_isAble_8 rfl ?_
  refine J_getr (pc := 9) dX11_isAble_9 kc11 fl_X11_49 rfl ?_
  refine J_iload_n (pc := 12) dX11_isAble_12 rfl ?_
  refine J_ar1 (pc := 13) dX11_isAble_13 rfl (by first | with_reducible rfl | assumption | exact ix_nI _ | rfl) ⟨by first | decide | omega, by decide⟩ ?_
  refine J_iconst (pc := 14) (v := 0) dX11_isAble_14 (by decide) ?_
  refine J_il (pc := 15) dX11_isAble_15 (lay_pilgrim (by omega)) (rfl : (0 : Int32) = nI 0) ⟨by first | decide | omega, by decide⟩ ?_
  refine J_icmp_ne (pc := 16) (tgt := 40) dX11_isAble_16 (by decide) (fun c16 => ?_) (fun c16 => ?_)
  · refine J_iconst (pc := 40) (v := 0) dX11_isAble_40 (by decide) ?_
    exact J_iret (pc := 41) rfl rfl rfl dX11_isAble_41 (rqw hQ (by first | exact (bI_f (fun q => c16 q.1)).symm | exact (bI_f (fun q => Int32.not_le.mpr c33 q.2)).symm | exact (bI_t ⟨c16, Int32.not_lt.mp c33⟩).symm) rfl)
  · refine J_aload_n (pc := 19) dX11_isAble_19 rfl ?_
    refine J_aload_n (pc := 20) dX11_isAble_20 rfl ?_
    refine J_iload_n (pc := 21) dX11_isAble_21 rfl ?_
    refine J_cvw (pc := 22) (N := mX11_power) dX11_isAble_22 ml_X11_289 cf_X11_power cv_X11_power (r_X11_power ha hH hW hM hr) rfl rfl (Nat.le_of_ble_eq_true rfl) (by decide) (rv_of (ci := 11) rfl rfl rfl) ?_
    intro T
    refine J_aload_n (pc := 25) dX11_isAble_25 rfl ?_
    refine J_getr (pc := 26) dX11_isAble_26 kc11 fl_X11_49 rfl ?_
    refine J_iload_n (pc := 29) dX11_isAble_29 rfl ?_
    refine J_ar1 (pc := 30) dX11_isAble_30 rfl (by first | with_reducible rfl | assumption | exact ix_nI _ | rfl) ⟨by first | decide | omega, by decide⟩ ?_
    refine J_iconst (pc := 31) (v := 1) dX11_isAble_31 (by decide) ?_
    refine J_il (pc := 32) dX11_isAble_32 (lay_pilgrim (by omega)) (rfl : (1 : Int32) = nI 1) ⟨by first | decide | omega, by decide⟩ ?_
    refine J_icmp_lt (pc := 33) (tgt := 40) dX11_isAble_33 (by decide) (fun c33 => ?_) (fun c33 => ?_)
    · refine J_iconst (pc := 40) (v := 0) dX11_isAble_40 (by decide) ?_
      exact J_iret (pc := 41) rfl rfl rfl dX11_isAble_41 (rqw hQ (by first | exact (bI_f (fun q => c16 q.1)).symm | exact (bI_f (fun q => Int32.not_le.mpr c33 q.2)).symm | exact (bI_t ⟨c16, Int32.not_lt.mp c33⟩).symm) rfl)
    · refine J_iconst (pc := 36) (v := 1) dX11_isAble_36 (by decide) ?_
      refine J_goto (pc := 37) (tgt := 41) dX11_isAble_37 (by decide) ?_
      exact J_iret (pc := 41) rfl rfl rfl dX11_isAble_41 (rqw hQ (by first | exact (bI_f (fun q => c16 q.1)).symm | exact (bI_f (fun q => Int32.not_le.mpr c33 q.2)).symm | exact (bI_t ⟨c16, Int32.not_lt.mp c33⟩).symm) rfl)
theorem r_X11_canCure {g : Gp} {S : Sx} {a r p ns nr np m : Nat} {ow : Nat → Nat} {wv : Nat → Nat × Nat} (ha : isRow a) (hH : MH S ns nr np ow) (hW : LawW m wv) (hM : LawM S m wv) (hr : r < nr) (hp : p < np) : RW g mX11_canCure 7 [.ref 59, .ref a, .int (nI r), .int (nI p)] S (some (.int (bI (decide (sa S a (36 + p) = -1 ∧ sa S a (26 + r) = 0 ∧ sa S (80 + r) 1 = sa S (100 + p) 0 ∧ sa S (100 + p) 1 ≤ mpw S a nr ow m wv r))))) S := by
  refine RW_ofQ ⟨rfl, rfl⟩ (Nat.le_of_ble_eq_true rfl) (fun T sz Q hQ => ?_)
  have hH' := hH
  obtain ⟨e0, e1, e2, l0, l1, l2, ho⟩ := hH'
  refine J_aload_n (pc := 0) dX11_canCure_0 rfl ?_
  refine J_bipush (pc := 1) (v := 36) dX11_canCure_1 (by decide) ?_
  refine J_iload_n (pc := 3) dX11_canCure_3 rfl ?_
  refine J_iadd (pc := 4) dX11_canCure_4 ?_
  refine J_il (pc := 5) dX11_canCure_5 (by first | rfl | assumption) (by first | exact nI_add 36 _ | (rw [ix_nI]; exact nI_add 36 _)) ⟨by first | decide | omega, by decide⟩ ?_
  refine J_iconst (pc := 6) (v := -1) dX11_canCure_6 (by decide) ?_
  refine J_icmp_ne (pc := 7) (tgt := 33) dX11_canCure_7 (by decide) (fun c7 => ?_) (fun c7 => ?_)
  · refine J_iconst (pc := 33) (v := 0) dX11_canCure_33 (by decide) ?_
    exact J_iret (pc := 34) rfl rfl rfl dX11_canCure_34 (rqw hQ (by first | exact (bI_f (fun q => c7 q.1)).symm | exact (bI_f (fun q => c16 q.2.1)).symm | exact (bI_f (fun q => c26 q.2.2)).symm | exact (bI_t ⟨c7, c16, c26⟩).symm) rfl)
  · refine J_aload_n (pc := 10) dX11_canCure_10 rfl ?_
    refine J_bipush (pc := 11) (v := 26) dX11_canCure_11 (by decide) ?_
    refine J_iload_n (pc := 13) dX11_canCure_13 rfl ?_
    refine J_iadd (pc := 14) dX11_canCure_14 ?_
    refine J_il (pc := 15) dX11_canCure_15 (by first | rfl | assumption) (by first | exact nI_add 26 _ | (rw [ix_nI]; exact nI_add 26 _)) ⟨by first | decide | omega, by decide⟩ ?_
    refine J_if_ne (pc := 16) (tgt := 33) dX11_canCure_16 (by decide) (fun c16 => ?_) (fun c16 => ?_)
    · refine J_iconst (pc := 33) (v := 0) dX11_canCure_33 (by decide) ?_
      exact J_iret (pc := 34) rfl rfl rfl dX11_canCure_34 (rqw hQ (by first | exact (bI_f (fun q => c7 q.1)).symm | exact (bI_f (fun q => c16 q.2.1)).symm | exact (bI_f (fun q => c26 q.2.2)).symm | exact (bI_t ⟨c7, c16, c26⟩).symm) rfl)
    · refine J_aload_n (pc := 19) dX11_canCure_19 rfl ?_
      refine J_aload_n (pc := 20) dX11_canCure_20 rfl ?_
      refine J_iload_n (pc := 21) dX11_canCure_21 rfl ?_
      refine J_iload_n (pc := 22) dX11_canCure_22 rfl ?_
      refine J_cvw (pc := 23) (N := mX11_isAble) dX11_canCure_23 ml_X11_292 cf_X11_isAble cv_X11_isAble (r_X11_isAble ha hH hW hM hr hp) rfl rfl (Nat.le_of_ble_eq_true rfl) (by decide) (rv_of (ci := 11) rfl rfl rfl) ?_
      intro T
      refine J_ifp_eq (pc := 26) (tgt := 33) dX11_canCure_26 (by decide) (fun c26 => ?_) (fun c26 => ?_)
      · refine J_iconst (pc := 33) (v := 0) dX11_canCure_33 (by decide) ?_
        exact J_iret (pc := 34) rfl rfl rfl dX11_canCure_34 (rqw hQ (by first | exact (bI_f (fun q => c7 q.1)).symm | exact (bI_f (fun q => c16 q.2.1)).symm | exact (bI_f (fun q => c26 q.2.2)).symm | exact (bI_t ⟨c7, c16, c26⟩).symm) rfl)
      · refine J_iconst (pc := 29) (v := 1) dX11_canCure_29 (by decide) ?_
        refine J_goto (pc := 30) (tgt := 34) dX11_canCure_30 (by decide) ?_
        exact J_iret (pc := 34) rfl rfl rfl dX11_canCure_34 (rqw hQ (by first | exact (bI_f (fun q => c7 q.1)).symm | exact (bI_f (fun q => c16 q.2.1)).symm | exact (bI_f (fun q => c26 q.2.2)).symm | exact (bI_t ⟨c7, c16, c26⟩).symm) rfl)
theorem r_X11_canLapse {g : Gp} {S : Sx} {a s ns nr np : Nat} {ow : Nat → Nat} (ha : isRow a) (hH : MH S ns nr np ow) (hs' : s < ns) : RT g mX11_canLapse 2 [.ref 59, .ref a, .int (nI s)] S (some (.int (bI (decide (sa S a (0 + s) = 0 ∧ mko S a (nI s) nr ≠ 0))))) S := by
  refine RT_ofQ ⟨rfl, rfl⟩ (Nat.le_of_ble_eq_true rfl) (fun sz Q hQ => ?_)
  have hH' := hH
  obtain ⟨e0, e1, e2, l0, l1, l2, ho⟩ := hH'
  refine J_aload_n (pc := 0) dX11_canLapse_0 rfl ?_
  refine J_iconst (pc := 1) (v := 0) dX11_canLapse_1 (by decide) ?_
  refine J_iload_n (pc := 2) dX11_canLapse_2 rfl ?_
  refine J_iadd (pc := 3) dX11_canLapse_3 ?_
  refine J_il (pc := 4) dX11_canLapse_4 (by first | rfl | assumption) (by first | exact nI_add 0 _ | (rw [ix_nI]; exact nI_add 0 _)) ⟨by first | decide | omega, by decide⟩ ?_
  refine J_if_ne (pc := 5) (tgt := 21) dX11_canLapse_5 (by decide) (fun c5 => ?_) (fun c5 => ?_)
  · refine J_iconst (pc := 21) (v := 0) dX11_canLapse_21 (by decide) ?_
    exact J_iret (pc := 22) rfl rfl rfl dX11_canLapse_22 (rq hQ (by first | exact (bI_f (fun q => c5 q.1)).symm | exact (bI_f (fun q => q.2 c14)).symm | exact (bI_t ⟨c5, c14⟩).symm) rfl)
  · refine J_aload_n (pc := 8) dX11_canLapse_8 rfl ?_
    refine J_aload_n (pc := 9) dX11_canLapse_9 rfl ?_
    refine J_iload_n (pc := 10) dX11_canLapse_10 rfl ?_
    refine J_cvr (pc := 11) (N := mX11_keptOf) dX11_canLapse_11 ml_X11_274 cf_X11_keptOf cv_X11_keptOf (r_X11_keptOf ha hH) rfl rfl (Nat.le_of_ble_eq_true rfl) (by decide) (rv_of (ci := 11) rfl rfl rfl) ?_
    refine J_if_eq (pc := 14) (tgt := 21) dX11_canLapse_14 (by decide) (fun c14 => ?_) (fun c14 => ?_)
    · refine J_iconst (pc := 21) (v := 0) dX11_canLapse_21 (by decide) ?_
      exact J_iret (pc := 22) rfl rfl rfl dX11_canLapse_22 (rq hQ (by first | exact (bI_f (fun q => c5 q.1)).symm | exact (bI_f (fun q => q.2 c14)).symm | exact (bI_t ⟨c5, c14⟩).symm) rfl)
    · refine J_iconst (pc := 17) (v := 1) dX11_canLapse_17 (by decide) ?_
      refine J_goto (pc := 18) (tgt := 22) dX11_canLapse_18 (by decide) ?_
      exact J_iret (pc := 22) rfl rfl rfl dX11_canLapse_22 (rq hQ (by first | exact (bI_f (fun q => c5 q.1)).symm | exact (bI_f (fun q => q.2 c14)).symm | exact (bI_t ⟨c5, c14⟩).symm) rfl)
theorem r_X11_cures_f {g : Gp} {S : Sx} {a r p ns nr np m : Nat} {ow : Nat → Nat} {wv : Nat → Nat × Nat} (ha : isRow a) (hH : MH S ns nr np ow) (hW : LawW m wv) (hM : LawM S m wv) (hr : r < nr) (hp : p < np) (hc : ¬ (sa S a (36 + p) = -1 ∧ sa S a (26 + r) = 0 ∧ sa S (80 + r) 1 = sa S (100 + p) 0 ∧ sa S (100 + p) 1 ≤ mpw S a nr ow m wv r)) : RW g mX11_cures 8 [.ref 59, .ref a, .int (nI r), .int (nI p)] S (some (.int 0)) S := by
  refine RW_ofQ ⟨rfl, rfl⟩ (Nat.le_of_ble_eq_true rfl) (fun T sz Q hQ => ?_)
  have hH' := hH
  obtain ⟨e0, e1, e2, l0, l1, l2, ho⟩ := hH'
  refine J_aload_n (pc := 0) dX11_cures_0 rfl ?_
  refine J_aload_n (pc := 1) dX11_cures_1 rfl ?_
  refine J_iload_n (pc := 2) dX11_cures_2 rfl ?_
  refine J_iload_n (pc := 3) dX11_cures_3 rfl ?_
  refine J_cvw (pc := 4) (N := mX11_canCure) dX11_cures_4 ml_X11_299 cf_X11_canCure cv_X11_canCure (r_X11_canCure ha hH hW hM hr hp) rfl rfl (Nat.le_of_ble_eq_true rfl) (by decide) (rv_of (ci := 11) rfl rfl rfl) ?_
  intro T
  refine J_ifp_ne (pc := 7) (tgt := 12) dX11_cures_7 (by decide) (fun c7 => absurd c7 hc) (fun c7 => ?_)
  refine J_iconst (pc := 10) (v := 0) dX11_cures_10 (by decide) ?_
  exact J_iret (pc := 11) rfl rfl rfl dX11_cures_11 (rqw hQ (by first | rfl | simp [bI, *] | simp_all [bI]) rfl)
theorem r_X11_cures_t {g : Gp} {S : Sx} {a r p ns nr np m : Nat} {ow : Nat → Nat} {wv : Nat → Nat × Nat} (ha : isRow a) (hH : MH S ns nr np ow) (hW : LawW m wv) (hM : LawM S m wv) (hr : r < nr) (hp : p < np) (hc : sa S a (36 + p) = -1 ∧ sa S a (26 + r) = 0 ∧ sa S (80 + r) 1 = sa S (100 + p) 0 ∧ sa S (100 + p) 1 ≤ mpw S a nr ow m wv r) : RW g mX11_cures 8 [.ref 59, .ref a, .int (nI r), .int (nI p)] S (some (.int 1)) (sA (sA S a (36 + p) (nI r)) a (26 + r) 1) := by
  refine RW_ofQ ⟨rfl, rfl⟩ (Nat.le_of_ble_eq_true rfl) (fun T sz Q hQ => ?_)
  have hH' := hH
  obtain ⟨e0, e1, e2, l0, l1, l2, ho⟩ := hH'
  refine J_aload_n (pc := 0) dX11_cures_0 rfl ?_
  refine J_aload_n (pc := 1) dX11_cures_1 rfl ?_
  refine J_iload_n (pc := 2) dX11_cures_2 rfl ?_
  refine J_iload_n (pc := 3) dX11_cures_3 rfl ?_
  refine J_cvw (pc := 4) (N := mX11_canCure) dX11_cures_4 ml_X11_299 cf_X11_canCure cv_X11_canCure (r_X11_canCure ha hH hW hM hr hp) rfl rfl (Nat.le_of_ble_eq_true rfl) (by decide) (rv_of (ci := 11) rfl rfl rfl) ?_
  intro T
  refine J_ifp_ne (pc := 7) (tgt := 12) dX11_cures_7 (by decide) (fun c7 => ?_) (fun c7 => absurd hc c7)
  refine J_aload_n (pc := 12) dX11_cures_12 rfl ?_
  refine J_bipush (pc := 13) (v := 36) dX11_cures_13 (by decide) ?_
  refine J_iload_n (pc := 15) dX11_cures_15 rfl ?_
  refine J_iadd (pc := 16) dX11_cures_16 ?_
  refine J_iload_n (pc := 17) dX11_cures_17 rfl ?_
  refine J_isw (pc := 18) dX11_cures_18 (by first | rfl | assumption) (by first | exact nI_add 36 _ | (rw [ix_nI]; exact nI_add 36 _)) ⟨by first | decide | omega, by decide⟩ ?_
  refine J_aload_n (pc := 19) dX11_cures_19 rfl ?_
  refine J_bipush (pc := 20) (v := 26) dX11_cures_20 (by decide) ?_
  refine J_iload_n (pc := 22) dX11_cures_22 rfl ?_
  refine J_iadd (pc := 23) dX11_cures_23 ?_
  refine J_iconst (pc := 24) (v := 1) dX11_cures_24 (by decide) ?_
  refine J_isw (pc := 25) dX11_cures_25 (by first | rfl | assumption) (by first | exact nI_add 26 _ | (rw [ix_nI]; exact nI_add 26 _)) ⟨by first | decide | omega, by decide⟩ ?_
  refine J_iconst (pc := 26) (v := 1) dX11_cures_26 (by decide) ?_
  exact J_iret (pc := 27) rfl rfl rfl dX11_cures_27 (rqw hQ (by first | rfl | simp [bI, *] | simp_all [bI]) rfl)
