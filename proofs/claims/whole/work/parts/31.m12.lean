def rlm (S : Sx) (nr np : Nat) (ow : Nat → Nat) (m : Nat) (wv : Nat → Nat × Nat) (r w : Nat) : Int32 := match w with
  | 3 => sa S 535 (16 + r)
  | 4 => mpw S 535 nr ow m wv r
  | 5 => msk (fun p => decide (sa S 535 (36 + p) = -1 ∧ sa S (80 + r) 1 = sa S (100 + p) 0 ∧ sa S (100 + p) 1 ≤ mpw S 535 nr ow m wv r)) np
  | w => sa S (80 + r) w
theorem r_X11_relic_e1 {g : Gp} {S : Sx} {x y : Int32} {ns nr np : Nat} {ow : Nat → Nat} (hH : MH S ns nr np ow) (hv : ¬ (0 ≤ x ∧ x ≤ nI nr - 1)) : RT g mX11_relic 2 [.ref 59, .int x, .int y] S (some (.int 0)) (er S 1 0) := by
  refine RT_ofQ ⟨rfl, rfl⟩ (Nat.le_of_ble_eq_true rfl) (fun sz Q hQ => ?_)
  refine J_aload_n (pc := 0) dX11_relic_0 rfl ?_
  refine J_iconst (pc := 1) (v := 0) dX11_relic_1 (by decide) ?_
  refine J_puti (pc := 2) dX11_relic_2 kc11 fl_X11_103 rfl ⟨rfl, rfl⟩ ?_
  refine J_aload_n (pc := 5) dX11_relic_5 rfl ?_
  refine J_aload_n (pc := 6) dX11_relic_6 rfl ?_
  refine J_iload_n (pc := 7) dX11_relic_7 rfl ?_
  refine J_cvr (pc := 8) (N := mX11_isRelic) dX11_relic_8 ml_X11_339 cf_X11_isRelic cv_X11_isRelic (r_X11_isRelic (S := S0 S) hH) rfl rfl (Nat.le_of_ble_eq_true rfl) (by decide) (rv_of (ci := 11) rfl rfl rfl) ?_
  refine J_ifp_ne (pc := 11) (tgt := 18) dX11_relic_11 (by decide) (fun c11 => absurd c11 hv) (fun c11 => ?_)
  refine J_iconst (pc := 14) (v := 1) dX11_relic_14 (by decide) ?_
  refine J_goto (pc := 15) (tgt := 19) dX11_relic_15 (by decide) ?_
  refine J_iconst (pc := 19) (v := 1) dX11_relic_19 (by decide) ?_
  refine J_iconst (pc := 20) (v := 0) dX11_relic_20 (by decide) ?_
  refine J_cvr (pc := 21) (N := mX11_bad) dX11_relic_21 ml_X11_183 cf_X11_bad cv_X11_bad (r_X11_bad_t (k := 0) rfl (by decide) (by decide) rfl) rfl rfl (Nat.le_of_ble_eq_true rfl) (by decide) (rv_of (ci := 11) rfl rfl rfl) ?_
  refine J_if_ne (pc := 24) (tgt := 50) dX11_relic_24 (by decide) (fun c24 => ?_) (fun c24 => absurd c24 (by decide))
  refine J_iconst (pc := 50) (v := 0) dX11_relic_50 (by decide) ?_
  exact J_iret (pc := 51) rfl rfl rfl dX11_relic_51 (rq hQ (by first | rfl | simp [bI, *] | simp_all [bI]) rfl)
theorem r_X11_relic_e2 {g : Gp} {S : Sx} {x y : Int32} {ns nr np : Nat} {ow : Nat → Nat} (hH : MH S ns nr np ow) (hv : 0 ≤ x ∧ x ≤ nI nr - 1) (hv2 : ¬ (0 ≤ y ∧ y ≤ 5)) : RT g mX11_relic 2 [.ref 59, .int x, .int y] S (some (.int 0)) (er S 2 1) := by
  refine RT_ofQ ⟨rfl, rfl⟩ (Nat.le_of_ble_eq_true rfl) (fun sz Q hQ => ?_)
  refine J_aload_n (pc := 0) dX11_relic_0 rfl ?_
  refine J_iconst (pc := 1) (v := 0) dX11_relic_1 (by decide) ?_
  refine J_puti (pc := 2) dX11_relic_2 kc11 fl_X11_103 rfl ⟨rfl, rfl⟩ ?_
  refine J_aload_n (pc := 5) dX11_relic_5 rfl ?_
  refine J_aload_n (pc := 6) dX11_relic_6 rfl ?_
  refine J_iload_n (pc := 7) dX11_relic_7 rfl ?_
  refine J_cvr (pc := 8) (N := mX11_isRelic) dX11_relic_8 ml_X11_339 cf_X11_isRelic cv_X11_isRelic (r_X11_isRelic (S := S0 S) hH) rfl rfl (Nat.le_of_ble_eq_true rfl) (by decide) (rv_of (ci := 11) rfl rfl rfl) ?_
  refine J_ifp_ne (pc := 11) (tgt := 18) dX11_relic_11 (by decide) (fun c11 => ?_) (fun c11 => absurd hv c11)
  refine J_iconst (pc := 18) (v := 0) dX11_relic_18 (by decide) ?_
  refine J_iconst (pc := 19) (v := 1) dX11_relic_19 (by decide) ?_
  refine J_iconst (pc := 20) (v := 0) dX11_relic_20 (by decide) ?_
  refine J_cvr (pc := 21) (N := mX11_bad) dX11_relic_21 ml_X11_183 cf_X11_bad cv_X11_bad (r_X11_bad_f rfl) rfl rfl (Nat.le_of_ble_eq_true rfl) (by decide) (rv_of (ci := 11) rfl rfl rfl) ?_
  refine J_if_ne (pc := 24) (tgt := 50) dX11_relic_24 (by decide) (fun c24 => absurd rfl c24) (fun c24 => ?_)
  refine J_aload_n (pc := 27) dX11_relic_27 rfl ?_
  refine J_iload_n (pc := 28) dX11_relic_28 rfl ?_
  refine J_iconst (pc := 29) (v := 0) dX11_relic_29 (by decide) ?_
  refine J_iconst (pc := 30) (v := 5) dX11_relic_30 (by decide) ?_
  refine J_csr (pc := 31) (N := mX11_in) dX11_relic_31 ml_X11_137 cf_X11_in cs_X11_in r_X11_in rfl rfl (Nat.le_of_ble_eq_true rfl) (by decide) ?_
  refine J_ifp_ne (pc := 34) (tgt := 41) dX11_relic_34 (by decide) (fun c34 => absurd c34 hv2) (fun c34 => ?_)
  refine J_iconst (pc := 37) (v := 1) dX11_relic_37 (by decide) ?_
  refine J_goto (pc := 38) (tgt := 42) dX11_relic_38 (by decide) ?_
  refine J_iconst (pc := 42) (v := 2) dX11_relic_42 (by decide) ?_
  refine J_iconst (pc := 43) (v := 1) dX11_relic_43 (by decide) ?_
  refine J_cvr (pc := 44) (N := mX11_bad) dX11_relic_44 ml_X11_183 cf_X11_bad cv_X11_bad (r_X11_bad_t (k := 1) rfl (by decide) (by decide) rfl) rfl rfl (Nat.le_of_ble_eq_true rfl) (by decide) (rv_of (ci := 11) rfl rfl rfl) ?_
  refine J_if_eq (pc := 47) (tgt := 52) dX11_relic_47 (by decide) (fun c47 => absurd c47 (by decide)) (fun c47 => ?_)
  refine J_iconst (pc := 50) (v := 0) dX11_relic_50 (by decide) ?_
  exact J_iret (pc := 51) rfl rfl rfl dX11_relic_51 (rq hQ (by first | rfl | simp [bI, *] | simp_all [bI]) rfl)
theorem r_X11_pilgrim_e1 {g : Gp} {S : Sx} {x y : Int32} {ns nr np : Nat} {ow : Nat → Nat} (hH : MH S ns nr np ow) (hv : ¬ (0 ≤ x ∧ x ≤ nI np - 1)) : RT g mX11_pilgrim 2 [.ref 59, .int x, .int y] S (some (.int 0)) (er S 1 0) := by
  refine RT_ofQ ⟨rfl, rfl⟩ (Nat.le_of_ble_eq_true rfl) (fun sz Q hQ => ?_)
  refine J_aload_n (pc := 0) dX11_pilgrim_0 rfl ?_
  refine J_iconst (pc := 1) (v := 0) dX11_pilgrim_1 (by decide) ?_
  refine J_puti (pc := 2) dX11_pilgrim_2 kc11 fl_X11_103 rfl ⟨rfl, rfl⟩ ?_
  refine J_aload_n (pc := 5) dX11_pilgrim_5 rfl ?_
  refine J_aload_n (pc := 6) dX11_pilgrim_6 rfl ?_
  refine J_iload_n (pc := 7) dX11_pilgrim_7 rfl ?_
  refine J_cvr (pc := 8) (N := mX11_isPerson) dX11_pilgrim_8 ml_X11_342 cf_X11_isPerson cv_X11_isPerson (r_X11_isPerson (S := S0 S) hH) rfl rfl (Nat.le_of_ble_eq_true rfl) (by decide) (rv_of (ci := 11) rfl rfl rfl) ?_
  refine J_ifp_ne (pc := 11) (tgt := 18) dX11_pilgrim_11 (by decide) (fun c11 => absurd c11 hv) (fun c11 => ?_)
  refine J_iconst (pc := 14) (v := 1) dX11_pilgrim_14 (by decide) ?_
  refine J_goto (pc := 15) (tgt := 19) dX11_pilgrim_15 (by decide) ?_
  refine J_iconst (pc := 19) (v := 1) dX11_pilgrim_19 (by decide) ?_
  refine J_iconst (pc := 20) (v := 0) dX11_pilgrim_20 (by decide) ?_
  refine J_cvr (pc := 21) (N := mX11_bad) dX11_pilgrim_21 ml_X11_183 cf_X11_bad cv_X11_bad (r_X11_bad_t (k := 0) rfl (by decide) (by decide) rfl) rfl rfl (Nat.le_of_ble_eq_true rfl) (by decide) (rv_of (ci := 11) rfl rfl rfl) ?_
  refine J_if_ne (pc := 24) (tgt := 50) dX11_pilgrim_24 (by decide) (fun c24 => ?_) (fun c24 => absurd c24 (by decide))
  refine J_iconst (pc := 50) (v := 0) dX11_pilgrim_50 (by decide) ?_
  exact J_iret (pc := 51) rfl rfl rfl dX11_pilgrim_51 (rq hQ (by first | rfl | simp [bI, *] | simp_all [bI]) rfl)
theorem r_X11_pilgrim_e2 {g : Gp} {S : Sx} {x y : Int32} {ns nr np : Nat} {ow : Nat → Nat} (hH : MH S ns nr np ow) (hv : 0 ≤ x ∧ x ≤ nI np - 1) (hv2 : ¬ (0 ≤ y ∧ y ≤ 3)) : RT g mX11_pilgrim 2 [.ref 59, .int x, .int y] S (some (.int 0)) (er S 2 1) := by
  refine RT_ofQ ⟨rfl, rfl⟩ (Nat.le_of_ble_eq_true rfl) (fun sz Q hQ => ?_)
  refine J_aload_n (pc := 0) dX11_pilgrim_0 rfl ?_
  refine J_iconst (pc := 1) (v := 0) dX11_pilgrim_1 (by decide) ?_
  refine J_puti (pc := 2) dX11_pilgrim_2 kc11 fl_X11_103 rfl ⟨rfl, rfl⟩ ?_
  refine J_aload_n (pc := 5) dX11_pilgrim_5 rfl ?_
  refine J_aload_n (pc := 6) dX11_pilgrim_6 rfl ?_
  refine J_iload_n (pc := 7) dX11_pilgrim_7 rfl ?_
  refine J_cvr (pc := 8) (N := mX11_isPerson) dX11_pilgrim_8 ml_X11_342 cf_X11_isPerson cv_X11_isPerson (r_X11_isPerson (S := S0 S) hH) rfl rfl (Nat.le_of_ble_eq_true rfl) (by decide) (rv_of (ci := 11) rfl rfl rfl) ?_
  refine J_ifp_ne (pc := 11) (tgt := 18) dX11_pilgrim_11 (by decide) (fun c11 => ?_) (fun c11 => absurd hv c11)
  refine J_iconst (pc := 18) (v := 0) dX11_pilgrim_18 (by decide) ?_
  refine J_iconst (pc := 19) (v := 1) dX11_pilgrim_19 (by decide) ?_
  refine J_iconst (pc := 20) (v := 0) dX11_pilgrim_20 (by decide) ?_
  refine J_cvr (pc := 21) (N := mX11_bad) dX11_pilgrim_21 ml_X11_183 cf_X11_bad cv_X11_bad (r_X11_bad_f rfl) rfl rfl (Nat.le_of_ble_eq_true rfl) (by decide) (rv_of (ci := 11) rfl rfl rfl) ?_
  refine J_if_ne (pc := 24) (tgt := 50) dX11_pilgrim_24 (by decide) (fun c24 => absurd rfl c24) (fun c24 => ?_)
  refine J_aload_n (pc := 27) dX11_pilgrim_27 rfl ?_
  refine J_iload_n (pc := 28) dX11_pilgrim_28 rfl ?_
  refine J_iconst (pc := 29) (v := 0) dX11_pilgrim_29 (by decide) ?_
  refine J_iconst (pc := 30) (v := 3) dX11_pilgrim_30 (by decide) ?_
  refine J_csr (pc := 31) (N := mX11_in) dX11_pilgrim_31 ml_X11_137 cf_X11_in cs_X11_in r_X11_in rfl rfl (Nat.le_of_ble_eq_true rfl) (by decide) ?_
  refine J_ifp_ne (pc := 34) (tgt := 41) dX11_pilgrim_34 (by decide) (fun c34 => absurd c34 hv2) (fun c34 => ?_)
  refine J_iconst (pc := 37) (v := 1) dX11_pilgrim_37 (by decide) ?_
  refine J_goto (pc := 38) (tgt := 42) dX11_pilgrim_38 (by decide) ?_
  refine J_iconst (pc := 42) (v := 2) dX11_pilgrim_42 (by decide) ?_
  refine J_iconst (pc := 43) (v := 1) dX11_pilgrim_43 (by decide) ?_
  refine J_cvr (pc := 44) (N := mX11_bad) dX11_pilgrim_44 ml_X11_183 cf_X11_bad cv_X11_bad (r_X11_bad_t (k := 1) rfl (by decide) (by decide) rfl) rfl rfl (Nat.le_of_ble_eq_true rfl) (by decide) (rv_of (ci := 11) rfl rfl rfl) ?_
  refine J_if_eq (pc := 47) (tgt := 52) dX11_pilgrim_47 (by decide) (fun c47 => absurd c47 (by decide)) (fun c47 => ?_)
  refine J_iconst (pc := 50) (v := 0) dX11_pilgrim_50 (by decide) ?_
  exact J_iret (pc := 51) rfl rfl rfl dX11_pilgrim_51 (rq hQ (by first | rfl | simp [bI, *] | simp_all [bI]) rfl)
theorem r_X11_relic {g : Gp} {S : Sx} {r w : Nat} {ns nr np m : Nat} {ow : Nat → Nat} {wv : Nat → Nat × Nat} (hH : MH S ns nr np ow) (hW : LawW m wv) (hM : LawM S m wv) (hr : r < nr) (hv : w ≤ 5) : RW g mX11_relic 7 [.ref 59, .int (nI r), .int (nI w)] S (some (.int (rlm S nr np ow m wv r w))) (S0 S) := by
  refine RW_ofQ ⟨rfl, rfl⟩ (Nat.le_of_ble_eq_true rfl) (fun T sz Q hQ => ?_)
  have hH' := hH
  obtain ⟨e0, e1, e2, l0, l1, l2, ho⟩ := hH'
  refine J_aload_n (pc := 0) dX11_relic_0 rfl ?_
  refine J_iconst (pc := 1) (v := 0) dX11_relic_1 (by decide) ?_
  refine J_putiw (pc := 2) dX11_relic_2 kc11 fl_X11_103 rfl ⟨rfl, rfl⟩ ?_
  refine J_aload_n (pc := 5) dX11_relic_5 rfl ?_
  refine J_aload_n (pc := 6) dX11_relic_6 rfl ?_
  refine J_iload_n (pc := 7) dX11_relic_7 rfl ?_
  refine J_cvr (pc := 8) (N := mX11_isRelic) dX11_relic_8 ml_X11_339 cf_X11_isRelic cv_X11_isRelic (r_X11_isRelic (S := w1 (S0 S) T) hH) rfl rfl (Nat.le_of_ble_eq_true rfl) (by decide) (rv_of (ci := 11) rfl rfl rfl) ?_
  refine J_ifp_ne (pc := 11) (tgt := 18) dX11_relic_11 (by decide) (fun c11 => ?_) (fun c11 => absurd (inx hr (by omega)) c11)
  refine J_iconst (pc := 18) (v := 0) dX11_relic_18 (by decide) ?_
  refine J_iconst (pc := 19) (v := 1) dX11_relic_19 (by decide) ?_
  refine J_iconst (pc := 20) (v := 0) dX11_relic_20 (by decide) ?_
  refine J_cvr (pc := 21) (N := mX11_bad) dX11_relic_21 ml_X11_183 cf_X11_bad cv_X11_bad (r_X11_bad_f rfl) rfl rfl (Nat.le_of_ble_eq_true rfl) (by decide) (rv_of (ci := 11) rfl rfl rfl) ?_
  refine J_if_ne (pc := 24) (tgt := 50) dX11_relic_24 (by decide) (fun c24 => absurd rfl c24) (fun c24 => ?_)
  refine J_aload_n (pc := 27) dX11_relic_27 rfl ?_
  refine J_iload_n (pc := 28) dX11_relic_28 rfl ?_
  refine J_iconst (pc := 29) (v := 0) dX11_relic_29 (by decide) ?_
  refine J_iconst (pc := 30) (v := 5) dX11_relic_30 (by decide) ?_
  refine J_csr (pc := 31) (N := mX11_in) dX11_relic_31 ml_X11_137 cf_X11_in cs_X11_in r_X11_in rfl rfl (Nat.le_of_ble_eq_true rfl) (by decide) ?_
  refine J_ifp_ne (pc := 34) (tgt := 41) dX11_relic_34 (by decide) (fun c34 => ?_) (fun c34 => absurd (inw 5 rfl hv (by decide)) c34)
  refine J_iconst (pc := 41) (v := 0) dX11_relic_41 (by decide) ?_
  refine J_iconst (pc := 42) (v := 2) dX11_relic_42 (by decide) ?_
  refine J_iconst (pc := 43) (v := 1) dX11_relic_43 (by decide) ?_
  refine J_cvr (pc := 44) (N := mX11_bad) dX11_relic_44 ml_X11_183 cf_X11_bad cv_X11_bad (r_X11_bad_f rfl) rfl rfl (Nat.le_of_ble_eq_true rfl) (by decide) (rv_of (ci := 11) rfl rfl rfl) ?_
  refine J_if_eq (pc := 47) (tgt := 52) dX11_relic_47 (by decide) (fun c47 => ?_) (fun c47 => absurd rfl c47)
  refine J_iconst (pc := 52) (v := 0) dX11_relic_52 (by decide) ?_
  refine J_istore_n (pc := 53) dX11_relic_53 (by decide) rfl ?_
  refine J_iconst (pc := 54) (v := 0) dX11_relic_54 (by decide) ?_
  refine J_istore (pc := 55) dX11_relic_55 (by decide) rfl ?_
  show J g mX11_relic 7 [] 57 [some (.ref 59), some (.int (nI r)), some (.int (nI w)), some (.int 0), some (.int 0)] [] (hs (w1 (S0 S) T)) sz 0 0 Q
  refine dn_ind (n := np) (P := fun i => ∀ T, J g mX11_relic 7 [] 57 [some (.ref 59), some (.int (nI r)), some (.int (nI w)), some (.int (msk (fun p => decide (sa S 535 (36 + p) = -1 ∧ sa S (80 + r) 1 = sa S (100 + p) 0 ∧ sa S (100 + p) 1 ≤ mpw S 535 nr ow m wv r)) i)), some (.int (ix i))] [] (hs (w1 (S0 S) T)) sz 0 0 Q) ?_ (fun i hi ih => ?_) 0 (Nat.zero_le _) _
  · intro T
    refine J_iload (pc := 57) dX11_relic_57 rfl ?_
    refine J_aload_n (pc := 59) dX11_relic_59 rfl ?_
    refine J_getr (pc := 60) dX11_relic_60 kc11 fl_X11_23 rfl ?_
    refine J_iconst (pc := 63) (v := 2) dX11_relic_63 (by decide) ?_
    refine J_il (pc := 64) dX11_relic_64 (by first | rfl | assumption) (rfl : (2 : Int32) = nI 2) ⟨by first | decide | omega, by decide⟩ ?_
    refine J_icmp_ge (pc := 65) (tgt := 113) dX11_relic_65 (by decide) (fun c65 => ?_) (fun c65 => absurd (ix_ge e2) c65)
    obtain rfl | rfl | rfl | rfl | rfl | rfl : w = 0 ∨ w = 1 ∨ w = 2 ∨ w = 3 ∨ w = 4 ∨ w = 5 := by omega
    · refine J_iload_n (pc := 113) dX11_relic_113 rfl ?_
      refine J_tableOut (pc := 114) (tgt := 162) dX11_relic_114 (by decide) (by decide) ?_
      refine J_aload_n (pc := 162) dX11_relic_162 rfl ?_
      refine J_getr (pc := 163) dX11_relic_163 kc11 fl_X11_43 rfl ?_
      refine J_iload_n (pc := 166) dX11_relic_166 rfl ?_
      refine J_ar1 (pc := 167) dX11_relic_167 rfl (by first | with_reducible rfl | assumption | exact ix_nI _ | rfl) ⟨by first | decide | omega, by decide⟩ ?_
      refine J_iload_n (pc := 168) dX11_relic_168 rfl ?_
      refine J_il (pc := 169) dX11_relic_169 (lay_relic (by omega)) rfl ⟨by decide, by decide⟩ ?_
      exact J_iret (pc := 170) rfl rfl rfl dX11_relic_170 (rqw hQ (by first | rfl | simp [bI, *] | simp_all [bI]) rfl)
    · refine J_iload_n (pc := 113) dX11_relic_113 rfl ?_
      refine J_tableOut (pc := 114) (tgt := 162) dX11_relic_114 (by decide) (by decide) ?_
      refine J_aload_n (pc := 162) dX11_relic_162 rfl ?_
      refine J_getr (pc := 163) dX11_relic_163 kc11 fl_X11_43 rfl ?_
      refine J_iload_n (pc := 166) dX11_relic_166 rfl ?_
      refine J_ar1 (pc := 167) dX11_relic_167 rfl (by first | with_reducible rfl | assumption | exact ix_nI _ | rfl) ⟨by first | decide | omega, by decide⟩ ?_
      refine J_iload_n (pc := 168) dX11_relic_168 rfl ?_
      refine J_il (pc := 169) dX11_relic_169 (lay_relic (by omega)) rfl ⟨by decide, by decide⟩ ?_
      exact J_iret (pc := 170) rfl rfl rfl dX11_relic_170 (rqw hQ (by first | rfl | simp [bI, *] | simp_all [bI]) rfl)
    · refine J_iload_n (pc := 113) dX11_relic_113 rfl ?_
      refine J_tableOut (pc := 114) (tgt := 162) dX11_relic_114 (by decide) (by decide) ?_
      refine J_aload_n (pc := 162) dX11_relic_162 rfl ?_
      refine J_getr (pc := 163) dX11_relic_163 kc11 fl_X11_43 rfl ?_
      refine J_iload_n (pc := 166) dX11_relic_166 rfl ?_
      refine J_ar1 (pc := 167) dX11_relic_167 rfl (by first | with_reducible rfl | assumption | exact ix_nI _ | rfl) ⟨by first | decide | omega, by decide⟩ ?_
      refine J_iload_n (pc := 168) dX11_relic_168 rfl ?_
      refine J_il (pc := 169) dX11_relic_169 (lay_relic (by omega)) rfl ⟨by decide, by decide⟩ ?_
      exact J_iret (pc := 170) rfl rfl rfl dX11_relic_170 (rqw hQ (by first | rfl | simp [bI, *] | simp_all [bI]) rfl)
    · refine J_iload_n (pc := 113) dX11_relic_113 rfl ?_
      refine J_tableIn (pc := 114) (off := 26) (tgt := 140) dX11_relic_114 (by decide) (by decide) (by decide) (by decide) ?_
      refine J_aload_n (pc := 140) dX11_relic_140 rfl ?_
      refine J_getr (pc := 141) dX11_relic_141 kc11 fl_X11_73 rfl ?_
      refine J_bipush (pc := 144) (v := 16) dX11_relic_144 (by decide) ?_
      refine J_iload_n (pc := 146) dX11_relic_146 rfl ?_
      refine J_iadd (pc := 147) dX11_relic_147 ?_
      refine J_il (pc := 148) dX11_relic_148 (by first | rfl | assumption) (by first | exact nI_add 16 _ | (rw [ix_nI]; exact nI_add 16 _)) ⟨by first | decide | omega, by decide⟩ ?_
      exact J_iret (pc := 149) rfl rfl rfl dX11_relic_149 (rqw hQ (by first | rfl | simp [bI, *] | simp_all [bI]) rfl)
    · refine J_iload_n (pc := 113) dX11_relic_113 rfl ?_
      refine J_tableIn (pc := 114) (off := 36) (tgt := 150) dX11_relic_114 (by decide) (by decide) (by decide) (by decide) ?_
      refine J_aload_n (pc := 150) dX11_relic_150 rfl ?_
      refine J_aload_n (pc := 151) dX11_relic_151 rfl ?_
      refine J_getr (pc := 152) dX11_relic_152 kc11 fl_X11_73 rfl ?_
      refine J_iload_n (pc := 155) dX11_relic_155 rfl ?_
      refine J_cvw (pc := 156) (N := mX11_power) dX11_relic_156 ml_X11_289 cf_X11_power cv_X11_power (r_X11_power (S := S0 S) row535 hH hW hM hr) rfl rfl (Nat.le_of_ble_eq_true rfl) (by decide) (rv_of (ci := 11) rfl rfl rfl) ?_
      intro T
      exact J_iret (pc := 159) rfl rfl rfl dX11_relic_159 (rqw hQ (by first | rfl | simp [bI, *] | simp_all [bI]) rfl)
    · refine J_iload_n (pc := 113) dX11_relic_113 rfl ?_
      refine J_tableIn (pc := 114) (off := 46) (tgt := 160) dX11_relic_114 (by decide) (by decide) (by decide) (by decide) ?_
      refine J_iload_n (pc := 160) dX11_relic_160 rfl ?_
      exact J_iret (pc := 161) rfl rfl rfl dX11_relic_161 (rqw hQ (by first | rfl | simp [bI, *] | simp_all [bI]) rfl)
  · intro T
    refine J_iload (pc := 57) dX11_relic_57 rfl ?_
    refine J_aload_n (pc := 59) dX11_relic_59 rfl ?_
    refine J_getr (pc := 60) dX11_relic_60 kc11 fl_X11_23 rfl ?_
    refine J_iconst (pc := 63) (v := 2) dX11_relic_63 (by decide) ?_
    refine J_il (pc := 64) dX11_relic_64 (by first | rfl | assumption) (rfl : (2 : Int32) = nI 2) ⟨by first | decide | omega, by decide⟩ ?_
    refine J_icmp_ge (pc := 65) (tgt := 113) dX11_relic_65 (by decide) (fun c65 => absurd c65 (ix_lt e2 hi (by omega))) (fun c65 => ?_)
    refine J_iload_n (pc := 68) dX11_relic_68 rfl ?_
    refine J_aload_n (pc := 69) dX11_relic_69 rfl ?_
    refine J_getr (pc := 70) dX11_relic_70 kc11 fl_X11_73 rfl ?_
    refine J_bipush (pc := 73) (v := 36) dX11_relic_73 (by decide) ?_
    refine J_iload (pc := 75) dX11_relic_75 rfl ?_
    refine J_iadd (pc := 77) dX11_relic_77 ?_
    refine J_il (pc := 78) dX11_relic_78 (by first | rfl | assumption) (by first | exact nI_add 36 _ | (rw [ix_nI]; exact nI_add 36 _)) ⟨by first | decide | omega, by decide⟩ ?_
    refine J_iconst (pc := 79) (v := -1) dX11_relic_79 (by decide) ?_
    refine J_icmp_ne (pc := 80) (tgt := 104) dX11_relic_80 (by decide) (fun c80 => ?_) (fun c80 => ?_)
    · refine J_iconst (pc := 104) (v := 0) dX11_relic_104 (by decide) ?_
      refine J_ior (pc := 105) dX11_relic_105 ?_
      refine J_t1 (y := msk (fun p => decide (sa S 535 (36 + p) = -1 ∧ sa S (80 + r) 1 = sa S (100 + p) 0 ∧ sa S (100 + p) 1 ≤ mpw S 535 nr ow m wv r)) (i + 1)) (by first | exact msk_t (decide_eq_true ⟨c80, c94⟩) | exact msk_f (fun z => c80 (of_decide_eq_true z).1) | exact msk_f (fun z => c94 (of_decide_eq_true z).2)) ?_
      refine J_istore_n (pc := 106) dX11_relic_106 (by decide) rfl ?_
      refine J_iinc (pc := 107) (v := 1) dX11_relic_107 rfl (by decide) rfl ?_
      refine J_goto (pc := 110) (tgt := 57) dX11_relic_110 (by decide) ?_
      exact ih T
    · refine J_aload_n (pc := 83) dX11_relic_83 rfl ?_
      refine J_aload_n (pc := 84) dX11_relic_84 rfl ?_
      refine J_getr (pc := 85) dX11_relic_85 kc11 fl_X11_73 rfl ?_
      refine J_iload_n (pc := 88) dX11_relic_88 rfl ?_
      refine J_iload (pc := 89) dX11_relic_89 rfl ?_
      refine J_t1 (ix_nI i) ?_
      refine J_cvw (pc := 91) (N := mX11_isAble) dX11_relic_91 ml_X11_292 cf_X11_isAble cv_X11_isAble (r_X11_isAble (S := S0 S) row535 hH hW hM hr hi) rfl rfl (Nat.le_of_ble_eq_true rfl) (by decide) (rv_of (ci := 11) rfl rfl rfl) ?_
      intro T
      refine J_ifp_eq (pc := 94) (tgt := 104) dX11_relic_94 (by decide) (fun c94 => ?_) (fun c94 => ?_)
      · refine J_iconst (pc := 104) (v := 0) dX11_relic_104 (by decide) ?_
        refine J_ior (pc := 105) dX11_relic_105 ?_
        refine J_t1 (y := msk (fun p => decide (sa S 535 (36 + p) = -1 ∧ sa S (80 + r) 1 = sa S (100 + p) 0 ∧ sa S (100 + p) 1 ≤ mpw S 535 nr ow m wv r)) (i + 1)) (by first | exact msk_t (decide_eq_true ⟨c80, c94⟩) | exact msk_f (fun z => c80 (of_decide_eq_true z).1) | exact msk_f (fun z => c94 (of_decide_eq_true z).2)) ?_
        refine J_istore_n (pc := 106) dX11_relic_106 (by decide) rfl ?_
        refine J_iinc (pc := 107) (v := 1) dX11_relic_107 rfl (by decide) rfl ?_
        refine J_goto (pc := 110) (tgt := 57) dX11_relic_110 (by decide) ?_
        exact ih T
      · refine J_iconst (pc := 97) (v := 1) dX11_relic_97 (by decide) ?_
        refine J_iload (pc := 98) dX11_relic_98 rfl ?_
        refine J_ishl (pc := 100) dX11_relic_100 ?_
        refine J_goto (pc := 101) (tgt := 105) dX11_relic_101 (by decide) ?_
        refine J_ior (pc := 105) dX11_relic_105 ?_
        refine J_t1 (y := msk (fun p => decide (sa S 535 (36 + p) = -1 ∧ sa S (80 + r) 1 = sa S (100 + p) 0 ∧ sa S (100 + p) 1 ≤ mpw S 535 nr ow m wv r)) (i + 1)) (by first | exact msk_t (decide_eq_true ⟨c80, c94⟩) | exact msk_f (fun z => c80 (of_decide_eq_true z).1) | exact msk_f (fun z => c94 (of_decide_eq_true z).2)) ?_
        refine J_istore_n (pc := 106) dX11_relic_106 (by decide) rfl ?_
        refine J_iinc (pc := 107) (v := 1) dX11_relic_107 rfl (by decide) rfl ?_
        refine J_goto (pc := 110) (tgt := 57) dX11_relic_110 (by decide) ?_
        exact ih T
def plm (S : Sx) (nr np : Nat) (ow : Nat → Nat) (m : Nat) (wv : Nat → Nat × Nat) (p w : Nat) : Int32 := match w with
  | 2 => sa S 535 (36 + p)
  | 3 => msk (fun r => decide (sa S (80 + r) 1 = sa S (100 + p) 0 ∧ sa S (100 + p) 1 ≤ mpw S 535 nr ow m wv r)) nr
  | w => sa S (100 + p) w
theorem r_X11_pilgrim {g : Gp} {S : Sx} {p w : Nat} {ns nr np m : Nat} {ow : Nat → Nat} {wv : Nat → Nat × Nat} (hH : MH S ns nr np ow) (hW : LawW m wv) (hM : LawM S m wv) (hp : p < np) (hv : w ≤ 3) : RW g mX11_pilgrim 7 [.ref 59, .int (nI p), .int (nI w)] S (some (.int (plm S nr np ow m wv p w))) (S0 S) := by
  refine RW_ofQ ⟨rfl, rfl⟩ (Nat.le_of_ble_eq_true rfl) (fun T sz Q hQ => ?_)
  have hH' := hH
  obtain ⟨e0, e1, e2, l0, l1, l2, ho⟩ := hH'
  refine J_aload_n (pc := 0) dX11_pilgrim_0 rfl ?_
  refine J_iconst (pc := 1) (v := 0) dX11_pilgrim_1 (by decide) ?_
  refine J_putiw (pc := 2) dX11_pilgrim_2 kc11 fl_X11_103 rfl ⟨rfl, rfl⟩ ?_
  refine J_aload_n (pc := 5) dX11_pilgrim_5 rfl ?_
  refine J_aload_n (pc := 6) dX11_pilgrim_6 rfl ?_
  refine J_iload_n (pc := 7) dX11_pilgrim_7 rfl ?_
  refine J_cvr (pc := 8) (N := mX11_isPerson) dX11_pilgrim_8 ml_X11_342 cf_X11_isPerson cv_X11_isPerson (r_X11_isPerson (S := w1 (S0 S) T) hH) rfl rfl (Nat.le_of_ble_eq_true rfl) (by decide) (rv_of (ci := 11) rfl rfl rfl) ?_
  refine J_ifp_ne (pc := 11) (tgt := 18) dX11_pilgrim_11 (by decide) (fun c11 => ?_) (fun c11 => absurd (inx hp (by omega)) c11)
  refine J_iconst (pc := 18) (v := 0) dX11_pilgrim_18 (by decide) ?_
  refine J_iconst (pc := 19) (v := 1) dX11_pilgrim_19 (by decide) ?_
  refine J_iconst (pc := 20) (v := 0) dX11_pilgrim_20 (by decide) ?_
  refine J_cvr (pc := 21) (N := mX11_bad) dX11_pilgrim_21 ml_X11_183 cf_X11_bad cv_X11_bad (r_X11_bad_f rfl) rfl rfl (Nat.le_of_ble_eq_true rfl) (by decide) (rv_of (ci := 11) rfl rfl rfl) ?_
  refine J_if_ne (pc := 24) (tgt := 50) dX11_pilgrim_24 (by decide) (fun c24 => absurd rfl c24) (fun c24 => ?_)
  refine J_aload_n (pc := 27) dX11_pilgrim_27 rfl ?_
  refine J_iload_n (pc := 28) dX11_pilgrim_28 rfl ?_
  refine J_iconst (pc := 29) (v := 0) dX11_pilgrim_29 (by decide) ?_
  refine J_iconst (pc := 30) (v := 3) dX11_pilgrim_30 (by decide) ?_
  refine J_csr (pc := 31) (N := mX11_in) dX11_pilgrim_31 ml_X11_137 cf_X11_in cs_X11_in r_X11_in rfl rfl (Nat.le_of_ble_eq_true rfl) (by decide) ?_
  refine J_ifp_ne (pc := 34) (tgt := 41) dX11_pilgrim_34 (by decide) (fun c34 => ?_) (fun c34 => absurd (inw 3 rfl hv (by decide)) c34)
  refine J_iconst (pc := 41) (v := 0) dX11_pilgrim_41 (by decide) ?_
  refine J_iconst (pc := 42) (v := 2) dX11_pilgrim_42 (by decide) ?_
  refine J_iconst (pc := 43) (v := 1) dX11_pilgrim_43 (by decide) ?_
  refine J_cvr (pc := 44) (N := mX11_bad) dX11_pilgrim_44 ml_X11_183 cf_X11_bad cv_X11_bad (r_X11_bad_f rfl) rfl rfl (Nat.le_of_ble_eq_true rfl) (by decide) (rv_of (ci := 11) rfl rfl rfl) ?_
  refine J_if_eq (pc := 47) (tgt := 52) dX11_pilgrim_47 (by decide) (fun c47 => ?_) (fun c47 => absurd rfl c47)
  refine J_iconst (pc := 52) (v := 0) dX11_pilgrim_52 (by decide) ?_
  refine J_istore_n (pc := 53) dX11_pilgrim_53 (by decide) rfl ?_
  refine J_iconst (pc := 54) (v := 0) dX11_pilgrim_54 (by decide) ?_
  refine J_istore (pc := 55) dX11_pilgrim_55 (by decide) rfl ?_
  show J g mX11_pilgrim 7 [] 57 [some (.ref 59), some (.int (nI p)), some (.int (nI w)), some (.int 0), some (.int 0)] [] (hs (w1 (S0 S) T)) sz 0 0 Q
  refine dn_ind (n := nr) (P := fun i => ∀ T, J g mX11_pilgrim 7 [] 57 [some (.ref 59), some (.int (nI p)), some (.int (nI w)), some (.int (msk (fun r => decide (sa S (80 + r) 1 = sa S (100 + p) 0 ∧ sa S (100 + p) 1 ≤ mpw S 535 nr ow m wv r)) i)), some (.int (ix i))] [] (hs (w1 (S0 S) T)) sz 0 0 Q) ?_ (fun i hi ih => ?_) 0 (Nat.zero_le _) _
  · intro T
    refine J_iload (pc := 57) dX11_pilgrim_57 rfl ?_
    refine J_aload_n (pc := 59) dX11_pilgrim_59 rfl ?_
    refine J_getr (pc := 60) dX11_pilgrim_60 kc11 fl_X11_23 rfl ?_
    refine J_iconst (pc := 63) (v := 1) dX11_pilgrim_63 (by decide) ?_
    refine J_il (pc := 64) dX11_pilgrim_64 (by first | rfl | assumption) (rfl : (1 : Int32) = nI 1) ⟨by first | decide | omega, by decide⟩ ?_
    refine J_icmp_ge (pc := 65) (tgt := 99) dX11_pilgrim_65 (by decide) (fun c65 => ?_) (fun c65 => absurd (ix_ge e1) c65)
    obtain rfl | rfl | rfl | rfl : w = 0 ∨ w = 1 ∨ w = 2 ∨ w = 3 := by omega
    · refine J_iload_n (pc := 99) dX11_pilgrim_99 rfl ?_
      refine J_iconst (pc := 100) (v := 2) dX11_pilgrim_100 (by decide) ?_
      refine J_icmp_ge (pc := 101) (tgt := 115) dX11_pilgrim_101 (by decide) (fun c101 => absurd c101 (by decide)) (fun c101 => ?_)
      refine J_aload_n (pc := 104) dX11_pilgrim_104 rfl ?_
      refine J_getr (pc := 105) dX11_pilgrim_105 kc11 fl_X11_49 rfl ?_
      refine J_iload_n (pc := 108) dX11_pilgrim_108 rfl ?_
      refine J_ar1 (pc := 109) dX11_pilgrim_109 rfl (by first | with_reducible rfl | assumption | exact ix_nI _ | rfl) ⟨by first | decide | omega, by decide⟩ ?_
      refine J_iload_n (pc := 110) dX11_pilgrim_110 rfl ?_
      refine J_il (pc := 111) dX11_pilgrim_111 (lay_pilgrim (by omega)) rfl ⟨by decide, by decide⟩ ?_
      refine J_goto (pc := 112) (tgt := 133) dX11_pilgrim_112 (by decide) ?_
      exact J_iret (pc := 133) rfl rfl rfl dX11_pilgrim_133 (rqw hQ (by first | rfl | simp [bI, *] | simp_all [bI]) rfl)
    · refine J_iload_n (pc := 99) dX11_pilgrim_99 rfl ?_
      refine J_iconst (pc := 100) (v := 2) dX11_pilgrim_100 (by decide) ?_
      refine J_icmp_ge (pc := 101) (tgt := 115) dX11_pilgrim_101 (by decide) (fun c101 => absurd c101 (by decide)) (fun c101 => ?_)
      refine J_aload_n (pc := 104) dX11_pilgrim_104 rfl ?_
      refine J_getr (pc := 105) dX11_pilgrim_105 kc11 fl_X11_49 rfl ?_
      refine J_iload_n (pc := 108) dX11_pilgrim_108 rfl ?_
      refine J_ar1 (pc := 109) dX11_pilgrim_109 rfl (by first | with_reducible rfl | assumption | exact ix_nI _ | rfl) ⟨by first | decide | omega, by decide⟩ ?_
      refine J_iload_n (pc := 110) dX11_pilgrim_110 rfl ?_
      refine J_il (pc := 111) dX11_pilgrim_111 (lay_pilgrim (by omega)) rfl ⟨by decide, by decide⟩ ?_
      refine J_goto (pc := 112) (tgt := 133) dX11_pilgrim_112 (by decide) ?_
      exact J_iret (pc := 133) rfl rfl rfl dX11_pilgrim_133 (rqw hQ (by first | rfl | simp [bI, *] | simp_all [bI]) rfl)
    · refine J_iload_n (pc := 99) dX11_pilgrim_99 rfl ?_
      refine J_iconst (pc := 100) (v := 2) dX11_pilgrim_100 (by decide) ?_
      refine J_icmp_ge (pc := 101) (tgt := 115) dX11_pilgrim_101 (by decide) (fun c101 => ?_) (fun c101 => absurd (by decide) c101)
      refine J_iload_n (pc := 115) dX11_pilgrim_115 rfl ?_
      refine J_iconst (pc := 116) (v := 2) dX11_pilgrim_116 (by decide) ?_
      refine J_icmp_ne (pc := 117) (tgt := 132) dX11_pilgrim_117 (by decide) (fun c117 => absurd rfl c117) (fun c117 => ?_)
      refine J_aload_n (pc := 120) dX11_pilgrim_120 rfl ?_
      refine J_getr (pc := 121) dX11_pilgrim_121 kc11 fl_X11_73 rfl ?_
      refine J_bipush (pc := 124) (v := 36) dX11_pilgrim_124 (by decide) ?_
      refine J_iload_n (pc := 126) dX11_pilgrim_126 rfl ?_
      refine J_iadd (pc := 127) dX11_pilgrim_127 ?_
      refine J_il (pc := 128) dX11_pilgrim_128 (by first | rfl | assumption) (by first | exact nI_add 36 _ | (rw [ix_nI]; exact nI_add 36 _)) ⟨by first | decide | omega, by decide⟩ ?_
      refine J_goto (pc := 129) (tgt := 133) dX11_pilgrim_129 (by decide) ?_
      exact J_iret (pc := 133) rfl rfl rfl dX11_pilgrim_133 (rqw hQ (by first | rfl | simp [bI, *] | simp_all [bI]) rfl)
    · refine J_iload_n (pc := 99) dX11_pilgrim_99 rfl ?_
      refine J_iconst (pc := 100) (v := 2) dX11_pilgrim_100 (by decide) ?_
      refine J_icmp_ge (pc := 101) (tgt := 115) dX11_pilgrim_101 (by decide) (fun c101 => ?_) (fun c101 => absurd (by decide) c101)
      refine J_iload_n (pc := 115) dX11_pilgrim_115 rfl ?_
      refine J_iconst (pc := 116) (v := 2) dX11_pilgrim_116 (by decide) ?_
      refine J_icmp_ne (pc := 117) (tgt := 132) dX11_pilgrim_117 (by decide) (fun c117 => ?_) (fun c117 => absurd c117 (by decide))
      refine J_iload_n (pc := 132) dX11_pilgrim_132 rfl ?_
      exact J_iret (pc := 133) rfl rfl rfl dX11_pilgrim_133 (rqw hQ (by first | rfl | simp [bI, *] | simp_all [bI]) rfl)
  · intro T
    refine J_iload (pc := 57) dX11_pilgrim_57 rfl ?_
    refine J_aload_n (pc := 59) dX11_pilgrim_59 rfl ?_
    refine J_getr (pc := 60) dX11_pilgrim_60 kc11 fl_X11_23 rfl ?_
    refine J_iconst (pc := 63) (v := 1) dX11_pilgrim_63 (by decide) ?_
    refine J_il (pc := 64) dX11_pilgrim_64 (by first | rfl | assumption) (rfl : (1 : Int32) = nI 1) ⟨by first | decide | omega, by decide⟩ ?_
    refine J_icmp_ge (pc := 65) (tgt := 99) dX11_pilgrim_65 (by decide) (fun c65 => absurd c65 (ix_lt e1 hi (by omega))) (fun c65 => ?_)
    refine J_iload_n (pc := 68) dX11_pilgrim_68 rfl ?_
    refine J_aload_n (pc := 69) dX11_pilgrim_69 rfl ?_
    refine J_aload_n (pc := 70) dX11_pilgrim_70 rfl ?_
    refine J_getr (pc := 71) dX11_pilgrim_71 kc11 fl_X11_73 rfl ?_
    refine J_iload (pc := 74) dX11_pilgrim_74 rfl ?_
    refine J_iload_n (pc := 76) dX11_pilgrim_76 rfl ?_
    refine J_st (st' := [.int (nI p), .int (nI i), .ref 535, .ref 59, .int (msk (fun r => decide (sa S (80 + r) 1 = sa S (100 + p) 0 ∧ sa S (100 + p) 1 ≤ mpw S 535 nr ow m wv r)) i)]) (by rw [ix_nI]) ?_
    refine J_cvw (pc := 77) (N := mX11_isAble) dX11_pilgrim_77 ml_X11_292 cf_X11_isAble cv_X11_isAble (r_X11_isAble (S := S0 S) (r := i) row535 hH hW hM hi hp) rfl rfl (Nat.le_of_ble_eq_true rfl) (by decide) (rv_of (ci := 11) rfl rfl rfl) ?_
    intro T
    refine J_ifp_eq (pc := 80) (tgt := 90) dX11_pilgrim_80 (by decide) (fun c80 => ?_) (fun c80 => ?_)
    · refine J_iconst (pc := 90) (v := 0) dX11_pilgrim_90 (by decide) ?_
      refine J_ior (pc := 91) dX11_pilgrim_91 ?_
      refine J_t1 (y := msk (fun r => decide (sa S (80 + r) 1 = sa S (100 + p) 0 ∧ sa S (100 + p) 1 ≤ mpw S 535 nr ow m wv r)) (i + 1)) (by first | exact msk_t (decide_eq_true c80) | exact msk_f (fun z => c80 (of_decide_eq_true z))) ?_
      refine J_istore_n (pc := 92) dX11_pilgrim_92 (by decide) rfl ?_
      refine J_iinc (pc := 93) (v := 1) dX11_pilgrim_93 rfl (by decide) rfl ?_
      refine J_goto (pc := 96) (tgt := 57) dX11_pilgrim_96 (by decide) ?_
      exact ih T
    · refine J_iconst (pc := 83) (v := 1) dX11_pilgrim_83 (by decide) ?_
      refine J_iload (pc := 84) dX11_pilgrim_84 rfl ?_
      refine J_ishl (pc := 86) dX11_pilgrim_86 ?_
      refine J_goto (pc := 87) (tgt := 91) dX11_pilgrim_87 (by decide) ?_
      refine J_ior (pc := 91) dX11_pilgrim_91 ?_
      refine J_t1 (y := msk (fun r => decide (sa S (80 + r) 1 = sa S (100 + p) 0 ∧ sa S (100 + p) 1 ≤ mpw S 535 nr ow m wv r)) (i + 1)) (by first | exact msk_t (decide_eq_true c80) | exact msk_f (fun z => c80 (of_decide_eq_true z))) ?_
      refine J_istore_n (pc := 92) dX11_pilgrim_92 (by decide) rfl ?_
      refine J_iinc (pc := 93) (v := 1) dX11_pilgrim_93 rfl (by decide) rfl ?_
      refine J_goto (pc := 96) (tgt := 57) dX11_pilgrim_96 (by decide) ?_
      exact ih T
def wvd (a b c d e f s t : Int32) : Prop := (1 ≤ a ∧ a ≤ 30) ∧ (0 ≤ b ∧ b ≤ 999) ∧ (0 ≤ c ∧ c ≤ 999) ∧ (0 ≤ d ∧ d ≤ 15) ∧ (0 ≤ e ∧ e ≤ 5) ∧ (0 ≤ f ∧ f ≤ 9) ∧ (0 ≤ s ∧ s ≤ 7) ∧ (0 ≤ t ∧ t ≤ 500)
theorem r_X11_would {g : Gp} {S : Sx} {a b c d e f s t : Int32} {m : Nat} {wv : Nat → Nat × Nat} (hW : LawW m wv) (hM : LawM S m wv) (hv : wvd a b c d e f s t) : RW g mX11_would 4 [.ref 59, .int a, .int b, .int c, .int d, .int e, .int f, .int s, .int t] S (some (.int (pval m wv (kn8 a b c d e f s t)))) (S0 S) := by
  refine RW_ofQ ⟨rfl, rfl⟩ (Nat.le_of_ble_eq_true rfl) (fun T sz Q hQ => ?_)
  obtain ⟨v1, v2, v3, v4, v5, v6, v7, v8⟩ := hv
  refine J_aload_n (pc := 0) dX11_would_0 rfl ?_
  refine J_iconst (pc := 1) (v := 0) dX11_would_1 (by decide) ?_
  refine J_putiw (pc := 2) dX11_would_2 kc11 fl_X11_103 rfl ⟨rfl, rfl⟩ ?_
  refine J_aload_n (pc := 5) dX11_would_5 rfl ?_
  refine J_iload_n (pc := 6) dX11_would_6 rfl ?_
  refine J_iconst (pc := 7) (v := 1) dX11_would_7 (by decide) ?_
  refine J_bipush (pc := 8) (v := 30) dX11_would_8 (by decide) ?_
  refine J_csr (pc := 10) (N := mX11_in) dX11_would_10 ml_X11_137 cf_X11_in cs_X11_in r_X11_in rfl rfl (Nat.le_of_ble_eq_true rfl) (by decide) ?_
  refine J_ifp_eq (pc := 13) (tgt := 93) dX11_would_13 (by decide) (fun c13 => absurd v1 c13) (fun c13 => ?_)
  refine J_iload_n (pc := 16) dX11_would_16 rfl ?_
  refine J_iconst (pc := 17) (v := 0) dX11_would_17 (by decide) ?_
  refine J_sipush (pc := 18) (v := 999) dX11_would_18 (by decide) ?_
  refine J_csr (pc := 21) (N := mX11_in) dX11_would_21 ml_X11_137 cf_X11_in cs_X11_in r_X11_in rfl rfl (Nat.le_of_ble_eq_true rfl) (by decide) ?_
  refine J_ifp_eq (pc := 24) (tgt := 93) dX11_would_24 (by decide) (fun c24 => absurd v2 c24) (fun c24 => ?_)
  refine J_iload_n (pc := 27) dX11_would_27 rfl ?_
  refine J_iconst (pc := 28) (v := 0) dX11_would_28 (by decide) ?_
  refine J_sipush (pc := 29) (v := 999) dX11_would_29 (by decide) ?_
  refine J_csr (pc := 32) (N := mX11_in) dX11_would_32 ml_X11_137 cf_X11_in cs_X11_in r_X11_in rfl rfl (Nat.le_of_ble_eq_true rfl) (by decide) ?_
  refine J_ifp_eq (pc := 35) (tgt := 93) dX11_would_35 (by decide) (fun c35 => absurd v3 c35) (fun c35 => ?_)
  refine J_iload (pc := 38) dX11_would_38 rfl ?_
  refine J_iconst (pc := 40) (v := 0) dX11_would_40 (by decide) ?_
  refine J_bipush (pc := 41) (v := 15) dX11_would_41 (by decide) ?_
  refine J_csr (pc := 43) (N := mX11_in) dX11_would_43 ml_X11_137 cf_X11_in cs_X11_in r_X11_in rfl rfl (Nat.le_of_ble_eq_true rfl) (by decide) ?_
  refine J_ifp_eq (pc := 46) (tgt := 93) dX11_would_46 (by decide) (fun c46 => absurd v4 c46) (fun c46 => ?_)
  refine J_iload (pc := 49) dX11_would_49 rfl ?_
  refine J_iconst (pc := 51) (v := 0) dX11_would_51 (by decide) ?_
  refine J_iconst (pc := 52) (v := 5) dX11_would_52 (by decide) ?_
  refine J_csr (pc := 53) (N := mX11_in) dX11_would_53 ml_X11_137 cf_X11_in cs_X11_in r_X11_in rfl rfl (Nat.le_of_ble_eq_true rfl) (by decide) ?_
  refine J_ifp_eq (pc := 56) (tgt := 93) dX11_would_56 (by decide) (fun c56 => absurd v5 c56) (fun c56 => ?_)
  refine J_iload (pc := 59) dX11_would_59 rfl ?_
  refine J_iconst (pc := 61) (v := 0) dX11_would_61 (by decide) ?_
  refine J_bipush (pc := 62) (v := 9) dX11_would_62 (by decide) ?_
  refine J_csr (pc := 64) (N := mX11_in) dX11_would_64 ml_X11_137 cf_X11_in cs_X11_in r_X11_in rfl rfl (Nat.le_of_ble_eq_true rfl) (by decide) ?_
  refine J_ifp_eq (pc := 67) (tgt := 93) dX11_would_67 (by decide) (fun c67 => absurd v6 c67) (fun c67 => ?_)
  refine J_iload (pc := 70) dX11_would_70 rfl ?_
  refine J_iconst (pc := 72) (v := 0) dX11_would_72 (by decide) ?_
  refine J_bipush (pc := 73) (v := 7) dX11_would_73 (by decide) ?_
  refine J_csr (pc := 75) (N := mX11_in) dX11_would_75 ml_X11_137 cf_X11_in cs_X11_in r_X11_in rfl rfl (Nat.le_of_ble_eq_true rfl) (by decide) ?_
  refine J_ifp_eq (pc := 78) (tgt := 93) dX11_would_78 (by decide) (fun c78 => absurd v7 c78) (fun c78 => ?_)
  refine J_iload (pc := 81) dX11_would_81 rfl ?_
  refine J_iconst (pc := 83) (v := 0) dX11_would_83 (by decide) ?_
  refine J_sipush (pc := 84) (v := 500) dX11_would_84 (by decide) ?_
  refine J_csr (pc := 87) (N := mX11_in) dX11_would_87 ml_X11_137 cf_X11_in cs_X11_in r_X11_in rfl rfl (Nat.le_of_ble_eq_true rfl) (by decide) ?_
  refine J_ifp_ne (pc := 90) (tgt := 97) dX11_would_90 (by decide) (fun c90 => ?_) (fun c90 => absurd v8 c90)
  refine J_iconst (pc := 97) (v := 0) dX11_would_97 (by decide) ?_
  refine J_iconst (pc := 98) (v := 1) dX11_would_98 (by decide) ?_
  refine J_iconst (pc := 99) (v := 1) dX11_would_99 (by decide) ?_
  refine J_cvr (pc := 100) (N := mX11_bad) dX11_would_100 ml_X11_183 cf_X11_bad cv_X11_bad (r_X11_bad_f rfl) rfl rfl (Nat.le_of_ble_eq_true rfl) (by decide) (rv_of (ci := 11) rfl rfl rfl) ?_
  refine J_if_eq (pc := 103) (tgt := 108) dX11_would_103 (by decide) (fun c103 => ?_) (fun c103 => absurd rfl c103)
  refine J_aload_n (pc := 108) dX11_would_108 rfl ?_
  refine J_iload_n (pc := 109) dX11_would_109 rfl ?_
  refine J_iload_n (pc := 110) dX11_would_110 rfl ?_
  refine J_iload_n (pc := 111) dX11_would_111 rfl ?_
  refine J_iload (pc := 112) dX11_would_112 rfl ?_
  refine J_iload (pc := 114) dX11_would_114 rfl ?_
  refine J_iload (pc := 116) dX11_would_116 rfl ?_
  refine J_iload (pc := 118) dX11_would_118 rfl ?_
  refine J_iload (pc := 120) dX11_would_120 rfl ?_
  refine J_cvw (pc := 122) (N := mX11_powerBy) dX11_would_122 ml_X11_281 cf_X11_powerBy cv_X11_powerBy (r_X11_powerBy (S := S0 S) hW hM) rfl rfl (Nat.le_of_ble_eq_true rfl) (by decide) (rv_of (ci := 11) rfl rfl rfl) ?_
  intro T
  exact J_iret (pc := 125) rfl rfl rfl dX11_would_125 (rqw hQ (by first | rfl | simp [bI, *] | simp_all [bI]) rfl)
theorem r_X11_would_er {g : Gp} {S : Sx} {a b c d e f s t : Int32} (hv : ¬ wvd a b c d e f s t) : RT g mX11_would 4 [.ref 59, .int a, .int b, .int c, .int d, .int e, .int f, .int s, .int t] S (some (.int 0)) (er S 1 1) := by
  refine RT_ofQ ⟨rfl, rfl⟩ (Nat.le_of_ble_eq_true rfl) (fun sz Q hQ => ?_)
  refine J_aload_n (pc := 0) dX11_would_0 rfl ?_
  refine J_iconst (pc := 1) (v := 0) dX11_would_1 (by decide) ?_
  refine J_puti (pc := 2) dX11_would_2 kc11 fl_X11_103 rfl ⟨rfl, rfl⟩ ?_
  refine J_aload_n (pc := 5) dX11_would_5 rfl ?_
  refine J_iload_n (pc := 6) dX11_would_6 rfl ?_
  refine J_iconst (pc := 7) (v := 1) dX11_would_7 (by decide) ?_
  refine J_bipush (pc := 8) (v := 30) dX11_would_8 (by decide) ?_
  refine J_csr (pc := 10) (N := mX11_in) dX11_would_10 ml_X11_137 cf_X11_in cs_X11_in r_X11_in rfl rfl (Nat.le_of_ble_eq_true rfl) (by decide) ?_
  refine J_ifp_eq (pc := 13) (tgt := 93) dX11_would_13 (by decide) (fun c13 => ?_) (fun c13 => ?_)
  · refine J_iconst (pc := 93) (v := 1) dX11_would_93 (by decide) ?_
    refine J_goto (pc := 94) (tgt := 98) dX11_would_94 (by decide) ?_
    refine J_iconst (pc := 98) (v := 1) dX11_would_98 (by decide) ?_
    refine J_iconst (pc := 99) (v := 1) dX11_would_99 (by decide) ?_
    refine J_cvr (pc := 100) (N := mX11_bad) dX11_would_100 ml_X11_183 cf_X11_bad cv_X11_bad (r_X11_bad_t (k := 1) rfl (by decide) (by decide) rfl) rfl rfl (Nat.le_of_ble_eq_true rfl) (by decide) (rv_of (ci := 11) rfl rfl rfl) ?_
    refine J_if_eq (pc := 103) (tgt := 108) dX11_would_103 (by decide) (fun c103 => absurd c103 (by decide)) (fun c103 => ?_)
    refine J_iconst (pc := 106) (v := 0) dX11_would_106 (by decide) ?_
    exact J_iret (pc := 107) rfl rfl rfl dX11_would_107 (rq hQ (by first | rfl | simp [bI, *] | simp_all [bI]) rfl)
  · refine J_iload_n (pc := 16) dX11_would_16 rfl ?_
    refine J_iconst (pc := 17) (v := 0) dX11_would_17 (by decide) ?_
    refine J_sipush (pc := 18) (v := 999) dX11_would_18 (by decide) ?_
    refine J_csr (pc := 21) (N := mX11_in) dX11_would_21 ml_X11_137 cf_X11_in cs_X11_in r_X11_in rfl rfl (Nat.le_of_ble_eq_true rfl) (by decide) ?_
    refine J_ifp_eq (pc := 24) (tgt := 93) dX11_would_24 (by decide) (fun c24 => ?_) (fun c24 => ?_)
    · refine J_iconst (pc := 93) (v := 1) dX11_would_93 (by decide) ?_
      refine J_goto (pc := 94) (tgt := 98) dX11_would_94 (by decide) ?_
      refine J_iconst (pc := 98) (v := 1) dX11_would_98 (by decide) ?_
      refine J_iconst (pc := 99) (v := 1) dX11_would_99 (by decide) ?_
      refine J_cvr (pc := 100) (N := mX11_bad) dX11_would_100 ml_X11_183 cf_X11_bad cv_X11_bad (r_X11_bad_t (k := 1) rfl (by decide) (by decide) rfl) rfl rfl (Nat.le_of_ble_eq_true rfl) (by decide) (rv_of (ci := 11) rfl rfl rfl) ?_
      refine J_if_eq (pc := 103) (tgt := 108) dX11_would_103 (by decide) (fun c103 => absurd c103 (by decide)) (fun c103 => ?_)
      refine J_iconst (pc := 106) (v := 0) dX11_would_106 (by decide) ?_
      exact J_iret (pc := 107) rfl rfl rfl dX11_would_107 (rq hQ (by first | rfl | simp [bI, *] | simp_all [bI]) rfl)
    · refine J_iload_n (pc := 27) dX11_would_27 rfl ?_
      refine J_iconst (pc := 28) (v := 0) dX11_would_28 (by decide) ?_
      refine J_sipush (pc := 29) (v := 999) dX11_would_29 (by decide) ?_
      refine J_csr (pc := 32) (N := mX11_in) dX11_would_32 ml_X11_137 cf_X11_in cs_X11_in r_X11_in rfl rfl (Nat.le_of_ble_eq_true rfl) (by decide) ?_
      refine J_ifp_eq (pc := 35) (tgt := 93) dX11_would_35 (by decide) (fun c35 => ?_) (fun c35 => ?_)
      · refine J_iconst (pc := 93) (v := 1) dX11_would_93 (by decide) ?_
        refine J_goto (pc := 94) (tgt := 98) dX11_would_94 (by decide) ?_
        refine J_iconst (pc := 98) (v := 1) dX11_would_98 (by decide) ?_
        refine J_iconst (pc := 99) (v := 1) dX11_would_99 (by decide) ?_
        refine J_cvr (pc := 100) (N := mX11_bad) dX11_would_100 ml_X11_183 cf_X11_bad cv_X11_bad (r_X11_bad_t (k := 1) rfl (by decide) (by decide) rfl) rfl rfl (Nat.le_of_ble_eq_true rfl) (by decide) (rv_of (ci := 11) rfl rfl rfl) ?_
        refine J_if_eq (pc := 103) (tgt := 108) dX11_would_103 (by decide) (fun c103 => absurd c103 (by decide)) (fun c103 => ?_)
        refine J_iconst (pc := 106) (v := 0) dX11_would_106 (by decide) ?_
        exact J_iret (pc := 107) rfl rfl rfl dX11_would_107 (rq hQ (by first | rfl | simp [bI, *] | simp_all [bI]) rfl)
      · refine J_iload (pc := 38) dX11_would_38 rfl ?_
        refine J_iconst (pc := 40) (v := 0) dX11_would_40 (by decide) ?_
        refine J_bipush (pc := 41) (v := 15) dX11_would_41 (by decide) ?_
        refine J_csr (pc := 43) (N := mX11_in) dX11_would_43 ml_X11_137 cf_X11_in cs_X11_in r_X11_in rfl rfl (Nat.le_of_ble_eq_true rfl) (by decide) ?_
        refine J_ifp_eq (pc := 46) (tgt := 93) dX11_would_46 (by decide) (fun c46 => ?_) (fun c46 => ?_)
        · refine J_iconst (pc := 93) (v := 1) dX11_would_93 (by decide) ?_
          refine J_goto (pc := 94) (tgt := 98) dX11_would_94 (by decide) ?_
          refine J_iconst (pc := 98) (v := 1) dX11_would_98 (by decide) ?_
          refine J_iconst (pc := 99) (v := 1) dX11_would_99 (by decide) ?_
          refine J_cvr (pc := 100) (N := mX11_bad) dX11_would_100 ml_X11_183 cf_X11_bad cv_X11_bad (r_X11_bad_t (k := 1) rfl (by decide) (by decide) rfl) rfl rfl (Nat.le_of_ble_eq_true rfl) (by decide) (rv_of (ci := 11) rfl rfl rfl) ?_
          refine J_if_eq (pc := 103) (tgt := 108) dX11_would_103 (by decide) (fun c103 => absurd c103 (by decide)) (fun c103 => ?_)
          refine J_iconst (pc := 106) (v := 0) dX11_would_106 (by decide) ?_
          exact J_iret (pc := 107) rfl rfl rfl dX11_would_107 (rq hQ (by first | rfl | simp [bI, *] | simp_all [bI]) rfl)
        · refine J_iload (pc := 49) dX11_would_49 rfl ?_
          refine J_iconst (pc := 51) (v := 0) dX11_would_51 (by decide) ?_
          refine J_iconst (pc := 52) (v := 5) dX11_would_52 (by decide) ?_
          refine J_csr (pc := 53) (N := mX11_in) dX11_would_53 ml_X11_137 cf_X11_in cs_X11_in r_X11_in rfl rfl (Nat.le_of_ble_eq_true rfl) (by decide) ?_
          refine J_ifp_eq (pc := 56) (tgt := 93) dX11_would_56 (by decide) (fun c56 => ?_) (fun c56 => ?_)
          · refine J_iconst (pc := 93) (v := 1) dX11_would_93 (by decide) ?_
            refine J_goto (pc := 94) (tgt := 98) dX11_would_94 (by decide) ?_
            refine J_iconst (pc := 98) (v := 1) dX11_would_98 (by decide) ?_
            refine J_iconst (pc := 99) (v := 1) dX11_would_99 (by decide) ?_
            refine J_cvr (pc := 100) (N := mX11_bad) dX11_would_100 ml_X11_183 cf_X11_bad cv_X11_bad (r_X11_bad_t (k := 1) rfl (by decide) (by decide) rfl) rfl rfl (Nat.le_of_ble_eq_true rfl) (by decide) (rv_of (ci := 11) rfl rfl rfl) ?_
            refine J_if_eq (pc := 103) (tgt := 108) dX11_would_103 (by decide) (fun c103 => absurd c103 (by decide)) (fun c103 => ?_)
            refine J_iconst (pc := 106) (v := 0) dX11_would_106 (by decide) ?_
            exact J_iret (pc := 107) rfl rfl rfl dX11_would_107 (rq hQ (by first | rfl | simp [bI, *] | simp_all [bI]) rfl)
          · refine J_iload (pc := 59) dX11_would_59 rfl ?_
            refine J_iconst (pc := 61) (v := 0) dX11_would_61 (by decide) ?_
            refine J_bipush (pc := 62) (v := 9) dX11_would_62 (by decide) ?_
            refine J_csr (pc := 64) (N := mX11_in) dX11_would_64 ml_X11_137 cf_X11_in cs_X11_in r_X11_in rfl rfl (Nat.le_of_ble_eq_true rfl) (by decide) ?_
            refine J_ifp_eq (pc := 67) (tgt := 93) dX11_would_67 (by decide) (fun c67 => ?_) (fun c67 => ?_)
            · refine J_iconst (pc := 93) (v := 1) dX11_would_93 (by decide) ?_
              refine J_goto (pc := 94) (tgt := 98) dX11_would_94 (by decide) ?_
              refine J_iconst (pc := 98) (v := 1) dX11_would_98 (by decide) ?_
              refine J_iconst (pc := 99) (v := 1) dX11_would_99 (by decide) ?_
              refine J_cvr (pc := 100) (N := mX11_bad) dX11_would_100 ml_X11_183 cf_X11_bad cv_X11_bad (r_X11_bad_t (k := 1) rfl (by decide) (by decide) rfl) rfl rfl (Nat.le_of_ble_eq_true rfl) (by decide) (rv_of (ci := 11) rfl rfl rfl) ?_
              refine J_if_eq (pc := 103) (tgt := 108) dX11_would_103 (by decide) (fun c103 => absurd c103 (by decide)) (fun c103 => ?_)
              refine J_iconst (pc := 106) (v := 0) dX11_would_106 (by decide) ?_
              exact J_iret (pc := 107) rfl rfl rfl dX11_would_107 (rq hQ (by first | rfl | simp [bI, *] | simp_all [bI]) rfl)
            · refine J_iload (pc := 70) dX11_would_70 rfl ?_
              refine J_iconst (pc := 72) (v := 0) dX11_would_72 (by decide) ?_
              refine J_bipush (pc := 73) (v := 7) dX11_would_73 (by decide) ?_
              refine J_csr (pc := 75) (N := mX11_in) dX11_would_75 ml_X11_137 cf_X11_in cs_X11_in r_X11_in rfl rfl (Nat.le_of_ble_eq_true rfl) (by decide) ?_
              refine J_ifp_eq (pc := 78) (tgt := 93) dX11_would_78 (by decide) (fun c78 => ?_) (fun c78 => ?_)
              · refine J_iconst (pc := 93) (v := 1) dX11_would_93 (by decide) ?_
                refine J_goto (pc := 94) (tgt := 98) dX11_would_94 (by decide) ?_
                refine J_iconst (pc := 98) (v := 1) dX11_would_98 (by decide) ?_
                refine J_iconst (pc := 99) (v := 1) dX11_would_99 (by decide) ?_
                refine J_cvr (pc := 100) (N := mX11_bad) dX11_would_100 ml_X11_183 cf_X11_bad cv_X11_bad (r_X11_bad_t (k := 1) rfl (by decide) (by decide) rfl) rfl rfl (Nat.le_of_ble_eq_true rfl) (by decide) (rv_of (ci := 11) rfl rfl rfl) ?_
                refine J_if_eq (pc := 103) (tgt := 108) dX11_would_103 (by decide) (fun c103 => absurd c103 (by decide)) (fun c103 => ?_)
                refine J_iconst (pc := 106) (v := 0) dX11_would_106 (by decide) ?_
                exact J_iret (pc := 107) rfl rfl rfl dX11_would_107 (rq hQ (by first | rfl | simp [bI, *] | simp_all [bI]) rfl)
              · refine J_iload (pc := 81) dX11_would_81 rfl ?_
                refine J_iconst (pc := 83) (v := 0) dX11_would_83 (by decide) ?_
                refine J_sipush (pc := 84) (v := 500) dX11_would_84 (by decide) ?_
                refine J_csr (pc := 87) (N := mX11_in) dX11_would_87 ml_X11_137 cf_X11_in cs_X11_in r_X11_in rfl rfl (Nat.le_of_ble_eq_true rfl) (by decide) ?_
                refine J_ifp_ne (pc := 90) (tgt := 97) dX11_would_90 (by decide) (fun c90 => absurd (show wvd a b c d e f s t from ⟨c13, c24, c35, c46, c56, c67, c78, c90⟩) hv) (fun c90 => ?_)
                refine J_iconst (pc := 93) (v := 1) dX11_would_93 (by decide) ?_
                refine J_goto (pc := 94) (tgt := 98) dX11_would_94 (by decide) ?_
                refine J_iconst (pc := 98) (v := 1) dX11_would_98 (by decide) ?_
                refine J_iconst (pc := 99) (v := 1) dX11_would_99 (by decide) ?_
                refine J_cvr (pc := 100) (N := mX11_bad) dX11_would_100 ml_X11_183 cf_X11_bad cv_X11_bad (r_X11_bad_t (k := 1) rfl (by decide) (by decide) rfl) rfl rfl (Nat.le_of_ble_eq_true rfl) (by decide) (rv_of (ci := 11) rfl rfl rfl) ?_
                refine J_if_eq (pc := 103) (tgt := 108) dX11_would_103 (by decide) (fun c103 => absurd c103 (by decide)) (fun c103 => ?_)
                refine J_iconst (pc := 106) (v := 0) dX11_would_106 (by decide) ?_
                exact J_iret (pc := 107) rfl rfl rfl dX11_would_107 (rq hQ (by first | rfl | simp [bI, *] | simp_all [bI]) rfl)
theorem r_X11_status {g : Gp} {S : Sx} {x : Int32} : RT g mX11_status 1 [.ref 59, .int x] S (some (.int (if x = 0 then sa S 61 0 else if x = 1 then sa S 61 1 else -1))) (S0 S) := by
  refine RT_ofQ ⟨rfl, rfl⟩ (Nat.le_of_ble_eq_true rfl) (fun sz Q hQ => ?_)
  by_cases h0 : x = 0
  · subst h0
    refine J_aload_n (pc := 0) dX11_status_0 rfl ?_
    refine J_iconst (pc := 1) (v := 0) dX11_status_1 (by decide) ?_
    refine J_puti (pc := 2) dX11_status_2 kc11 fl_X11_103 rfl ⟨rfl, rfl⟩ ?_
    refine J_iload_n (pc := 5) dX11_status_5 rfl ?_
    refine J_iconst (pc := 6) (v := 0) dX11_status_6 (by decide) ?_
    refine J_iconst (pc := 7) (v := 1) dX11_status_7 (by decide) ?_
    refine J_csr (pc := 8) (N := mX11_in) dX11_status_8 ml_X11_137 cf_X11_in cs_X11_in r_X11_in rfl rfl (Nat.le_of_ble_eq_true rfl) (by decide) ?_
    refine J_ifp_eq (pc := 11) (tgt := 23) dX11_status_11 (by decide) (fun c11 => absurd (show (0 : Int32) ≤ 0 ∧ (0 : Int32) ≤ 1 by decide) c11) (fun c11 => ?_)
    refine J_aload_n (pc := 14) dX11_status_14 rfl ?_
    refine J_getr (pc := 15) dX11_status_15 kc11 fl_X11_17 rfl ?_
    refine J_iload_n (pc := 18) dX11_status_18 rfl ?_
    refine J_il (pc := 19) dX11_status_19 (by first | rfl | assumption) (rfl : (0 : Int32) = nI 0) ⟨by first | decide | omega, by decide⟩ ?_
    refine J_goto (pc := 20) (tgt := 24) dX11_status_20 (by decide) ?_
    exact J_iret (pc := 24) rfl rfl rfl dX11_status_24 (rq hQ (if_pos rfl).symm rfl)
  by_cases h1 : x = 1
  · subst h1
    refine J_aload_n (pc := 0) dX11_status_0 rfl ?_
    refine J_iconst (pc := 1) (v := 0) dX11_status_1 (by decide) ?_
    refine J_puti (pc := 2) dX11_status_2 kc11 fl_X11_103 rfl ⟨rfl, rfl⟩ ?_
    refine J_iload_n (pc := 5) dX11_status_5 rfl ?_
    refine J_iconst (pc := 6) (v := 0) dX11_status_6 (by decide) ?_
    refine J_iconst (pc := 7) (v := 1) dX11_status_7 (by decide) ?_
    refine J_csr (pc := 8) (N := mX11_in) dX11_status_8 ml_X11_137 cf_X11_in cs_X11_in r_X11_in rfl rfl (Nat.le_of_ble_eq_true rfl) (by decide) ?_
    refine J_ifp_eq (pc := 11) (tgt := 23) dX11_status_11 (by decide) (fun c11 => absurd (show (0 : Int32) ≤ 1 ∧ (1 : Int32) ≤ 1 by decide) c11) (fun c11 => ?_)
    refine J_aload_n (pc := 14) dX11_status_14 rfl ?_
    refine J_getr (pc := 15) dX11_status_15 kc11 fl_X11_17 rfl ?_
    refine J_iload_n (pc := 18) dX11_status_18 rfl ?_
    refine J_il (pc := 19) dX11_status_19 (by first | rfl | assumption) (rfl : (1 : Int32) = nI 1) ⟨by first | decide | omega, by decide⟩ ?_
    refine J_goto (pc := 20) (tgt := 24) dX11_status_20 (by decide) ?_
    exact J_iret (pc := 24) rfl rfl rfl dX11_status_24 (rq hQ rfl rfl)
  refine J_aload_n (pc := 0) dX11_status_0 rfl ?_
  refine J_iconst (pc := 1) (v := 0) dX11_status_1 (by decide) ?_
  refine J_puti (pc := 2) dX11_status_2 kc11 fl_X11_103 rfl ⟨rfl, rfl⟩ ?_
  refine J_iload_n (pc := 5) dX11_status_5 rfl ?_
  refine J_iconst (pc := 6) (v := 0) dX11_status_6 (by decide) ?_
  refine J_iconst (pc := 7) (v := 1) dX11_status_7 (by decide) ?_
  refine J_csr (pc := 8) (N := mX11_in) dX11_status_8 ml_X11_137 cf_X11_in cs_X11_in r_X11_in rfl rfl (Nat.le_of_ble_eq_true rfl) (by decide) ?_
  refine J_ifp_eq (pc := 11) (tgt := 23) dX11_status_11 (by decide) (fun c11 => ?_) (fun c11 => absurd c11 (fun q => by have q1 := Int32.le_iff_toInt_le.mp q.1; have q2 := Int32.le_iff_toInt_le.mp q.2; have e0 : (0 : Int32).toInt = 0 := rfl; have e1 : (1 : Int32).toInt = 1 := rfl; rw [e0] at q1; rw [e1] at q2; rcases (show x.toInt = 0 ∨ x.toInt = 1 by omega) with z | z; exact h0 (Int32.toInt_inj.mp (z.trans e0.symm)); exact h1 (Int32.toInt_inj.mp (z.trans e1.symm))))
  refine J_iconst (pc := 23) (v := -1) dX11_status_23 (by decide) ?_
  exact J_iret (pc := 24) rfl rfl rfl dX11_status_24 (rq hQ (by rw [if_neg h0, if_neg h1]) rfl)
theorem r_X11_count {g : Gp} {S : Sx} {x : Int32} : RT g mX11_count 1 [.ref 59, .int x] S (some (.int (if x = 0 then sf S 59 38 else if x = 1 then sf S 59 1 else if x = 2 then sf S 59 36 else -1))) (S0 S) := by
  refine RT_ofQ ⟨rfl, rfl⟩ (Nat.le_of_ble_eq_true rfl) (fun sz Q hQ => ?_)
  refine J_aload_n (pc := 0) dX11_count_0 rfl ?_
  refine J_iconst (pc := 1) (v := 0) dX11_count_1 (by decide) ?_
  refine J_puti (pc := 2) dX11_count_2 kc11 fl_X11_103 rfl ⟨rfl, rfl⟩ ?_
  refine J_iload_n (pc := 5) dX11_count_5 rfl ?_
  refine J_if_ne (pc := 6) (tgt := 16) dX11_count_6 (by decide) (fun c6 => ?_) (fun c6 => ?_)
  · refine J_iload_n (pc := 16) dX11_count_16 rfl ?_
    refine J_iconst (pc := 17) (v := 1) dX11_count_17 (by decide) ?_
    refine J_icmp_ne (pc := 18) (tgt := 28) dX11_count_18 (by decide) (fun c18 => ?_) (fun c18 => ?_)
    · refine J_iload_n (pc := 28) dX11_count_28 rfl ?_
      refine J_iconst (pc := 29) (v := 2) dX11_count_29 (by decide) ?_
      refine J_icmp_ne (pc := 30) (tgt := 40) dX11_count_30 (by decide) (fun c30 => ?_) (fun c30 => ?_)
      · refine J_iconst (pc := 40) (v := -1) dX11_count_40 (by decide) ?_
        exact J_iret (pc := 41) rfl rfl rfl dX11_count_41 (rq hQ (by first | (rw [if_pos c6]; rfl) | (rw [if_neg c6, if_pos c18]; rfl) | (rw [if_neg c6, if_neg c18, if_pos c30]; rfl) | (rw [if_neg c6, if_neg c18, if_neg c30]; done)) rfl)
      · refine J_aload_n (pc := 33) dX11_count_33 rfl ?_
        refine J_geti (pc := 34) dX11_count_34 kc11 fl_X11_206 rfl ?_
        refine J_goto (pc := 37) (tgt := 41) dX11_count_37 (by decide) ?_
        exact J_iret (pc := 41) rfl rfl rfl dX11_count_41 (rq hQ (by first | (rw [if_pos c6]; rfl) | (rw [if_neg c6, if_pos c18]; rfl) | (rw [if_neg c6, if_neg c18, if_pos c30]; rfl) | (rw [if_neg c6, if_neg c18, if_neg c30]; done)) rfl)
    · refine J_aload_n (pc := 21) dX11_count_21 rfl ?_
      refine J_geti (pc := 22) dX11_count_22 kc11 fl_X11_106 rfl ?_
      refine J_goto (pc := 25) (tgt := 41) dX11_count_25 (by decide) ?_
      exact J_iret (pc := 41) rfl rfl rfl dX11_count_41 (rq hQ (by first | (rw [if_pos c6]; rfl) | (rw [if_neg c6, if_pos c18]; rfl) | (rw [if_neg c6, if_neg c18, if_pos c30]; rfl) | (rw [if_neg c6, if_neg c18, if_neg c30]; done)) rfl)
  · refine J_aload_n (pc := 9) dX11_count_9 rfl ?_
    refine J_geti (pc := 10) dX11_count_10 kc11 fl_X11_212 rfl ?_
    refine J_goto (pc := 13) (tgt := 41) dX11_count_13 (by decide) ?_
    exact J_iret (pc := 41) rfl rfl rfl dX11_count_41 (rq hQ (by first | (rw [if_pos c6]; rfl) | (rw [if_neg c6, if_pos c18]; rfl) | (rw [if_neg c6, if_neg c18, if_pos c30]; rfl) | (rw [if_neg c6, if_neg c18, if_neg c30]; done)) rfl)
theorem r_X11_fault {g : Gp} {S : Sx}  : RT g mX11_fault 1 [.ref 59] S (some (.int (sf S 59 3))) (S0 S) := by
  refine RT_ofQ ⟨rfl, rfl⟩ (Nat.le_of_ble_eq_true rfl) (fun sz Q hQ => ?_)
  refine J_aload_n (pc := 0) dX11_fault_0 rfl ?_
  refine J_iconst (pc := 1) (v := 0) dX11_fault_1 (by decide) ?_
  refine J_puti (pc := 2) dX11_fault_2 kc11 fl_X11_103 rfl ⟨rfl, rfl⟩ ?_
  refine J_aload_n (pc := 5) dX11_fault_5 rfl ?_
  refine J_geti (pc := 6) dX11_fault_6 kc11 fl_X11_9 rfl ?_
  exact J_iret (pc := 9) rfl rfl rfl dX11_fault_9 (rq hQ (by first | rfl | simp [bI, *] | simp_all [bI]) rfl)
