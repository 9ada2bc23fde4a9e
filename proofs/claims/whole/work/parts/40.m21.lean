/-! years, asked -/
theorem inw2 {a b n : Nat} {x y : Int32} (hx : x = nI a) (hy : y = nI b) (h1 : a ≤ n) (h2 : n ≤ b) (hb : b < 2 ^ 31) : x ≤ nI n ∧ nI n ≤ y := ⟨by rw [hx]; exact (nI_leI (by omega) (by omega)).mpr h1, by rw [hy]; exact (nI_leI (by omega) hb).mpr h2⟩
theorem r_X11_curedMore {g : Gp} {S : Sx} {ns nr np : Nat} {ow : Nat → Nat} (hH : MH S ns nr np ow) : RT g mX11_curedMore 2 [.ref 59] S (some (.int (on1 (mcu S 536 np) 10 - on1 (mcu S 535 np) 10))) S := by
  refine RT_ofQ ⟨rfl, rfl⟩ (Nat.le_of_ble_eq_true rfl) (fun sz Q hQ => ?_)
  refine J_aload_n (pc := 0) dX11_curedMore_0 rfl ?_
  refine J_aload_n (pc := 1) dX11_curedMore_1 rfl ?_
  refine J_getr (pc := 2) dX11_curedMore_2 kc11 fl_X11_76 rfl ?_
  refine J_cvr (pc := 5) (N := mX11_curedIn) dX11_curedMore_5 ml_X11_329 cf_X11_curedIn cv_X11_curedIn (r_X11_curedIn row536 hH) rfl rfl (Nat.le_of_ble_eq_true rfl) (by decide) (rv_of (ci := 11) rfl rfl rfl) ?_
  refine J_csr (pc := 8) (N := mX11_ones) dX11_curedMore_8 ml_X11_278 cf_X11_ones cs_X11_ones r_X11_ones rfl rfl (Nat.le_of_ble_eq_true rfl) (by decide) ?_
  refine J_aload_n (pc := 11) dX11_curedMore_11 rfl ?_
  refine J_aload_n (pc := 12) dX11_curedMore_12 rfl ?_
  refine J_getr (pc := 13) dX11_curedMore_13 kc11 fl_X11_73 rfl ?_
  refine J_cvr (pc := 16) (N := mX11_curedIn) dX11_curedMore_16 ml_X11_329 cf_X11_curedIn cv_X11_curedIn (r_X11_curedIn row535 hH) rfl rfl (Nat.le_of_ble_eq_true rfl) (by decide) (rv_of (ci := 11) rfl rfl rfl) ?_
  refine J_csr (pc := 19) (N := mX11_ones) dX11_curedMore_19 ml_X11_278 cf_X11_ones cs_X11_ones r_X11_ones rfl rfl (Nat.le_of_ble_eq_true rfl) (by decide) ?_
  refine J_isub (pc := 22) dX11_curedMore_22 ?_
  exact J_iret (pc := 23) rfl rfl rfl dX11_curedMore_23 (rq hQ (by first | rfl | simp [bI, *] | simp_all [bI]) rfl)
theorem mcu_off3 {S S' : Sx} (h : off3 S S') (np : Nat) : mcu S' 535 np = mcu S 535 np := by unfold mcu; rw [h.2.2.1 535 rfl]
noncomputable def yrX (S : Sx) (x : Int32) (days ns nr np : Nat) (ow : Nat → Nat) (m : Nat) (wv : Nat → Nat × Nat) : Sx := yrN (yr0 S x) ns nr np ow m wv days
theorem off3_yrX {S S' : Sx} (h : off3 S S') (x : Int32) (days ns nr np : Nat) (ow : Nat → Nat) (m : Nat) (wv : Nat → Nat × Nat) : off3 S (yrX S' x days ns nr np ow m wv) := off3_yr (off3_y0 h x) ns nr np ow m wv days
theorem r_X11_year_er {g : Gp} {S : Sx} {x y z : Int32} (hv : ¬ ((1 ≤ y ∧ y ≤ 96) ∧ (0 ≤ z ∧ z ≤ 3))) : RT g mX11_year 2 [.ref 59, .int x, .int y, .int z] S (some (.int 0)) (er S 1 1) := by
  refine RT_ofQ ⟨rfl, rfl⟩ (Nat.le_of_ble_eq_true rfl) (fun sz Q hQ => ?_)
  refine J_aload_n (pc := 0) dX11_year_0 rfl ?_
  refine J_iconst (pc := 1) (v := 0) dX11_year_1 (by decide) ?_
  refine J_puti (pc := 2) dX11_year_2 kc11 fl_X11_103 rfl ⟨rfl, rfl⟩ ?_
  refine J_aload_n (pc := 5) dX11_year_5 rfl ?_
  refine J_iload_n (pc := 6) dX11_year_6 rfl ?_
  refine J_iconst (pc := 7) (v := 1) dX11_year_7 (by decide) ?_
  refine J_bipush (pc := 8) (v := 96) dX11_year_8 (by decide) ?_
  refine J_csr (pc := 10) (N := mX11_in) dX11_year_10 ml_X11_137 cf_X11_in cs_X11_in r_X11_in rfl rfl (Nat.le_of_ble_eq_true rfl) (by decide) ?_
  refine J_ifp_eq (pc := 13) (tgt := 25) dX11_year_13 (by decide) (fun c13 => ?_) (fun c13 => ?_)
  · refine J_iconst (pc := 25) (v := 1) dX11_year_25 (by decide) ?_
    refine J_goto (pc := 26) (tgt := 30) dX11_year_26 (by decide) ?_
    refine J_iconst (pc := 30) (v := 1) dX11_year_30 (by decide) ?_
    refine J_iconst (pc := 31) (v := 1) dX11_year_31 (by decide) ?_
    refine J_cvr (pc := 32) (N := mX11_bad) dX11_year_32 ml_X11_183 cf_X11_bad cv_X11_bad (r_X11_bad_t (k := 1) rfl (by decide) (by decide) rfl) rfl rfl (Nat.le_of_ble_eq_true rfl) (by decide) (rv_of (ci := 11) rfl rfl rfl) ?_
    refine J_if_eq (pc := 35) (tgt := 40) dX11_year_35 (by decide) (fun c35 => absurd c35 (by decide)) (fun c35 => ?_)
    refine J_iconst (pc := 38) (v := 0) dX11_year_38 (by decide) ?_
    exact J_iret (pc := 39) rfl rfl rfl dX11_year_39 (rq hQ (by first | rfl | simp [bI, *] | simp_all [bI]) rfl)
  · refine J_iload_n (pc := 16) dX11_year_16 rfl ?_
    refine J_iconst (pc := 17) (v := 0) dX11_year_17 (by decide) ?_
    refine J_iconst (pc := 18) (v := 3) dX11_year_18 (by decide) ?_
    refine J_csr (pc := 19) (N := mX11_in) dX11_year_19 ml_X11_137 cf_X11_in cs_X11_in r_X11_in rfl rfl (Nat.le_of_ble_eq_true rfl) (by decide) ?_
    refine J_ifp_ne (pc := 22) (tgt := 29) dX11_year_22 (by decide) (fun c22 => absurd ⟨c13, c22⟩ hv) (fun c22 => ?_)
    refine J_iconst (pc := 25) (v := 1) dX11_year_25 (by decide) ?_
    refine J_goto (pc := 26) (tgt := 30) dX11_year_26 (by decide) ?_
    refine J_iconst (pc := 30) (v := 1) dX11_year_30 (by decide) ?_
    refine J_iconst (pc := 31) (v := 1) dX11_year_31 (by decide) ?_
    refine J_cvr (pc := 32) (N := mX11_bad) dX11_year_32 ml_X11_183 cf_X11_bad cv_X11_bad (r_X11_bad_t (k := 1) rfl (by decide) (by decide) rfl) rfl rfl (Nat.le_of_ble_eq_true rfl) (by decide) (rv_of (ci := 11) rfl rfl rfl) ?_
    refine J_if_eq (pc := 35) (tgt := 40) dX11_year_35 (by decide) (fun c35 => absurd c35 (by decide)) (fun c35 => ?_)
    refine J_iconst (pc := 38) (v := 0) dX11_year_38 (by decide) ?_
    exact J_iret (pc := 39) rfl rfl rfl dX11_year_39 (rq hQ (by first | rfl | simp [bI, *] | simp_all [bI]) rfl)
theorem r_X11_year0 {g : Gp} {S : Sx} {x : Int32} {days : Nat} {ns nr np m : Nat} {ow : Nat → Nat} {wv : Nat → Nat × Nat} (hH : MH S ns nr np ow) (hW : LawW m wv) (hM : LawM S m wv) (h1 : 1 ≤ days) (h9 : days ≤ 96) : RE g mX11_year 10 [.ref 59, .int x, .int (nI days), .int 0] S (some (.int (on1 (mcu (yrX (S0 S) x days ns nr np ow m wv) 536 np) 10 - on1 (mcu S 535 np) 10))) (S0 S) := by
  refine RE_ofQ ⟨rfl, rfl⟩ (Nat.le_of_ble_eq_true rfl) (fun sz Q hQ => ?_)
  refine J_aload_n (pc := 0) dX11_year_0 rfl ?_
  refine J_iconst (pc := 1) (v := 0) dX11_year_1 (by decide) ?_
  refine J_puti (pc := 2) dX11_year_2 kc11 fl_X11_103 rfl ⟨rfl, rfl⟩ ?_
  refine J_aload_n (pc := 5) dX11_year_5 rfl ?_
  refine J_iload_n (pc := 6) dX11_year_6 rfl ?_
  refine J_iconst (pc := 7) (v := 1) dX11_year_7 (by decide) ?_
  refine J_bipush (pc := 8) (v := 96) dX11_year_8 (by decide) ?_
  refine J_csr (pc := 10) (N := mX11_in) dX11_year_10 ml_X11_137 cf_X11_in cs_X11_in r_X11_in rfl rfl (Nat.le_of_ble_eq_true rfl) (by decide) ?_
  refine J_ifp_eq (pc := 13) (tgt := 25) dX11_year_13 (by decide) (fun c13 => absurd (inw2 (a := 1) (b := 96) rfl rfl h1 h9 (by decide)) c13) (fun c13 => ?_)
  refine J_iload_n (pc := 16) dX11_year_16 rfl ?_
  refine J_iconst (pc := 17) (v := 0) dX11_year_17 (by decide) ?_
  refine J_iconst (pc := 18) (v := 3) dX11_year_18 (by decide) ?_
  refine J_csr (pc := 19) (N := mX11_in) dX11_year_19 ml_X11_137 cf_X11_in cs_X11_in r_X11_in rfl rfl (Nat.le_of_ble_eq_true rfl) (by decide) ?_
  refine J_ifp_ne (pc := 22) (tgt := 29) dX11_year_22 (by decide) (fun c22 => ?_) (fun c22 => absurd (by decide) c22)
  refine J_iconst (pc := 29) (v := 0) dX11_year_29 (by decide) ?_
  refine J_iconst (pc := 30) (v := 1) dX11_year_30 (by decide) ?_
  refine J_iconst (pc := 31) (v := 1) dX11_year_31 (by decide) ?_
  refine J_cvr (pc := 32) (N := mX11_bad) dX11_year_32 ml_X11_183 cf_X11_bad cv_X11_bad (r_X11_bad_f rfl) rfl rfl (Nat.le_of_ble_eq_true rfl) (by decide) (rv_of (ci := 11) rfl rfl rfl) ?_
  refine J_if_eq (pc := 35) (tgt := 40) dX11_year_35 (by decide) (fun c35 => ?_) (fun c35 => absurd rfl c35)
  refine J_aload_n (pc := 40) dX11_year_40 rfl ?_
  refine J_iload_n (pc := 41) dX11_year_41 rfl ?_
  refine J_iload_n (pc := 42) dX11_year_42 rfl ?_
  refine J_cvx (pc := 43) (N := mX11_yearBy) dX11_year_43 ml_X11_398 cf_X11_yearBy cv_X11_yearBy (r_X11_yearBy (S := S0 S) hH hW hM h9) rfl rfl (Nat.le_of_ble_eq_true rfl) (by decide) (rv_of (ci := 11) rfl rfl rfl) ?_
  intro T
  have hof := off3_yrX (off3_r (S0 S)) x days ns nr np ow m wv
  obtain ⟨X, hX⟩ : ∃ X, X = yrX (S0 S) x days ns nr np ow m wv := ⟨_, rfl⟩
  refine J_cg2 (S' := w1 X T) (by rw [hX]; rfl) ?_
  rw [← hX] at hof hQ
  have hHx := off3_MH hof hH
  have hMx := off3_LawM hof hW hM
  refine J_iload_n (pc := 46) dX11_year_46 rfl ?_
  refine J_tableIn (pc := 47) (off := 25) (tgt := 72) dX11_year_47 (by decide) (by decide) (by decide) (by decide) ?_
  refine J_aload_n (pc := 72) dX11_year_72 rfl ?_
  refine J_cvr (pc := 73) (N := mX11_curedMore) dX11_year_73 ml_X11_401 cf_X11_curedMore cv_X11_curedMore (r_X11_curedMore (S := w1 X T) hHx) rfl rfl (Nat.le_of_ble_eq_true rfl) (by decide) (rv_of (ci := 11) rfl rfl rfl) ?_
  exact J_iret (pc := 76) rfl rfl rfl dX11_year_76 (rqe hQ (off3_w1 hof) (show on1 (mcu X 536 np) 10 - on1 (mcu X 535 np) 10 = _ by rw [mcu_off3 hof]; rfl))
theorem r_X11_year1 {g : Gp} {S : Sx} {x : Int32} {days : Nat} {ns nr np m : Nat} {ow : Nat → Nat} {wv : Nat → Nat × Nat} (hH : MH S ns nr np ow) (hW : LawW m wv) (hM : LawM S m wv) (h1 : 1 ≤ days) (h9 : days ≤ 96) : RE g mX11_year 10 [.ref 59, .int x, .int (nI days), .int 1] S (some (.int (sf (yrX (S0 S) x days ns nr np ow m wv) 59 48))) (S0 S) := by
  refine RE_ofQ ⟨rfl, rfl⟩ (Nat.le_of_ble_eq_true rfl) (fun sz Q hQ => ?_)
  refine J_aload_n (pc := 0) dX11_year_0 rfl ?_
  refine J_iconst (pc := 1) (v := 0) dX11_year_1 (by decide) ?_
  refine J_puti (pc := 2) dX11_year_2 kc11 fl_X11_103 rfl ⟨rfl, rfl⟩ ?_
  refine J_aload_n (pc := 5) dX11_year_5 rfl ?_
  refine J_iload_n (pc := 6) dX11_year_6 rfl ?_
  refine J_iconst (pc := 7) (v := 1) dX11_year_7 (by decide) ?_
  refine J_bipush (pc := 8) (v := 96) dX11_year_8 (by decide) ?_
  refine J_csr (pc := 10) (N := mX11_in) dX11_year_10 ml_X11_137 cf_X11_in cs_X11_in r_X11_in rfl rfl (Nat.le_of_ble_eq_true rfl) (by decide) ?_
  refine J_ifp_eq (pc := 13) (tgt := 25) dX11_year_13 (by decide) (fun c13 => absurd (inw2 (a := 1) (b := 96) rfl rfl h1 h9 (by decide)) c13) (fun c13 => ?_)
  refine J_iload_n (pc := 16) dX11_year_16 rfl ?_
  refine J_iconst (pc := 17) (v := 0) dX11_year_17 (by decide) ?_
  refine J_iconst (pc := 18) (v := 3) dX11_year_18 (by decide) ?_
  refine J_csr (pc := 19) (N := mX11_in) dX11_year_19 ml_X11_137 cf_X11_in cs_X11_in r_X11_in rfl rfl (Nat.le_of_ble_eq_true rfl) (by decide) ?_
  refine J_ifp_ne (pc := 22) (tgt := 29) dX11_year_22 (by decide) (fun c22 => ?_) (fun c22 => absurd (by decide) c22)
  refine J_iconst (pc := 29) (v := 0) dX11_year_29 (by decide) ?_
  refine J_iconst (pc := 30) (v := 1) dX11_year_30 (by decide) ?_
  refine J_iconst (pc := 31) (v := 1) dX11_year_31 (by decide) ?_
  refine J_cvr (pc := 32) (N := mX11_bad) dX11_year_32 ml_X11_183 cf_X11_bad cv_X11_bad (r_X11_bad_f rfl) rfl rfl (Nat.le_of_ble_eq_true rfl) (by decide) (rv_of (ci := 11) rfl rfl rfl) ?_
  refine J_if_eq (pc := 35) (tgt := 40) dX11_year_35 (by decide) (fun c35 => ?_) (fun c35 => absurd rfl c35)
  refine J_aload_n (pc := 40) dX11_year_40 rfl ?_
  refine J_iload_n (pc := 41) dX11_year_41 rfl ?_
  refine J_iload_n (pc := 42) dX11_year_42 rfl ?_
  refine J_cvx (pc := 43) (N := mX11_yearBy) dX11_year_43 ml_X11_398 cf_X11_yearBy cv_X11_yearBy (r_X11_yearBy (S := S0 S) hH hW hM h9) rfl rfl (Nat.le_of_ble_eq_true rfl) (by decide) (rv_of (ci := 11) rfl rfl rfl) ?_
  intro T
  have hof := off3_yrX (off3_r (S0 S)) x days ns nr np ow m wv
  obtain ⟨X, hX⟩ : ∃ X, X = yrX (S0 S) x days ns nr np ow m wv := ⟨_, rfl⟩
  refine J_cg2 (S' := w1 X T) (by rw [hX]; rfl) ?_
  rw [← hX] at hof hQ
  have hHx := off3_MH hof hH
  have hMx := off3_LawM hof hW hM
  refine J_iload_n (pc := 46) dX11_year_46 rfl ?_
  refine J_tableIn (pc := 47) (off := 30) (tgt := 77) dX11_year_47 (by decide) (by decide) (by decide) (by decide) ?_
  refine J_aload_n (pc := 77) dX11_year_77 rfl ?_
  refine J_geti (pc := 78) dX11_year_78 kc11 fl_X11_392 rfl ?_
  exact J_iret (pc := 81) rfl rfl rfl dX11_year_81 (rqe hQ (off3_w1 hof) rfl)
theorem r_X11_year2 {g : Gp} {S : Sx} {x : Int32} {days : Nat} {ns nr np m : Nat} {ow : Nat → Nat} {wv : Nat → Nat × Nat} (hH : MH S ns nr np ow) (hW : LawW m wv) (hM : LawM S m wv) (h1 : 1 ≤ days) (h9 : days ≤ 96) : RE g mX11_year 10 [.ref 59, .int x, .int (nI days), .int 2] S (some (.int (sm (mpw (yrX (S0 S) x days ns nr np ow m wv) 536 nr ow m wv) nr))) (S0 S) := by
  refine RE_ofQ ⟨rfl, rfl⟩ (Nat.le_of_ble_eq_true rfl) (fun sz Q hQ => ?_)
  refine J_aload_n (pc := 0) dX11_year_0 rfl ?_
  refine J_iconst (pc := 1) (v := 0) dX11_year_1 (by decide) ?_
  refine J_puti (pc := 2) dX11_year_2 kc11 fl_X11_103 rfl ⟨rfl, rfl⟩ ?_
  refine J_aload_n (pc := 5) dX11_year_5 rfl ?_
  refine J_iload_n (pc := 6) dX11_year_6 rfl ?_
  refine J_iconst (pc := 7) (v := 1) dX11_year_7 (by decide) ?_
  refine J_bipush (pc := 8) (v := 96) dX11_year_8 (by decide) ?_
  refine J_csr (pc := 10) (N := mX11_in) dX11_year_10 ml_X11_137 cf_X11_in cs_X11_in r_X11_in rfl rfl (Nat.le_of_ble_eq_true rfl) (by decide) ?_
  refine J_ifp_eq (pc := 13) (tgt := 25) dX11_year_13 (by decide) (fun c13 => absurd (inw2 (a := 1) (b := 96) rfl rfl h1 h9 (by decide)) c13) (fun c13 => ?_)
  refine J_iload_n (pc := 16) dX11_year_16 rfl ?_
  refine J_iconst (pc := 17) (v := 0) dX11_year_17 (by decide) ?_
  refine J_iconst (pc := 18) (v := 3) dX11_year_18 (by decide) ?_
  refine J_csr (pc := 19) (N := mX11_in) dX11_year_19 ml_X11_137 cf_X11_in cs_X11_in r_X11_in rfl rfl (Nat.le_of_ble_eq_true rfl) (by decide) ?_
  refine J_ifp_ne (pc := 22) (tgt := 29) dX11_year_22 (by decide) (fun c22 => ?_) (fun c22 => absurd (by decide) c22)
  refine J_iconst (pc := 29) (v := 0) dX11_year_29 (by decide) ?_
  refine J_iconst (pc := 30) (v := 1) dX11_year_30 (by decide) ?_
  refine J_iconst (pc := 31) (v := 1) dX11_year_31 (by decide) ?_
  refine J_cvr (pc := 32) (N := mX11_bad) dX11_year_32 ml_X11_183 cf_X11_bad cv_X11_bad (r_X11_bad_f rfl) rfl rfl (Nat.le_of_ble_eq_true rfl) (by decide) (rv_of (ci := 11) rfl rfl rfl) ?_
  refine J_if_eq (pc := 35) (tgt := 40) dX11_year_35 (by decide) (fun c35 => ?_) (fun c35 => absurd rfl c35)
  refine J_aload_n (pc := 40) dX11_year_40 rfl ?_
  refine J_iload_n (pc := 41) dX11_year_41 rfl ?_
  refine J_iload_n (pc := 42) dX11_year_42 rfl ?_
  refine J_cvx (pc := 43) (N := mX11_yearBy) dX11_year_43 ml_X11_398 cf_X11_yearBy cv_X11_yearBy (r_X11_yearBy (S := S0 S) hH hW hM h9) rfl rfl (Nat.le_of_ble_eq_true rfl) (by decide) (rv_of (ci := 11) rfl rfl rfl) ?_
  intro T
  have hof := off3_yrX (off3_r (S0 S)) x days ns nr np ow m wv
  obtain ⟨X, hX⟩ : ∃ X, X = yrX (S0 S) x days ns nr np ow m wv := ⟨_, rfl⟩
  refine J_cg2 (S' := w1 X T) (by rw [hX]; rfl) ?_
  rw [← hX] at hof hQ
  have hHx := off3_MH hof hH
  have hMx := off3_LawM hof hW hM
  refine J_iload_n (pc := 46) dX11_year_46 rfl ?_
  refine J_tableIn (pc := 47) (off := 35) (tgt := 82) dX11_year_47 (by decide) (by decide) (by decide) (by decide) ?_
  refine J_aload_n (pc := 82) dX11_year_82 rfl ?_
  refine J_aload_n (pc := 83) dX11_year_83 rfl ?_
  refine J_getr (pc := 84) dX11_year_84 kc11 fl_X11_76 rfl ?_
  refine J_cvw (pc := 87) (N := mX11_powersIn) dX11_year_87 ml_X11_333 cf_X11_powersIn cv_X11_powersIn (r_X11_powersIn (S := X) row536 hHx hW hMx) rfl rfl (Nat.le_of_ble_eq_true rfl) (by decide) (rv_of (ci := 11) rfl rfl rfl) ?_
  intro T
  exact J_iret (pc := 90) rfl rfl rfl dX11_year_90 (rqe hQ (off3_w1 hof) rfl)
theorem r_X11_year3 {g : Gp} {S : Sx} {x : Int32} {days : Nat} {ns nr np m : Nat} {ow : Nat → Nat} {wv : Nat → Nat × Nat} (hH : MH S ns nr np ow) (hW : LawW m wv) (hM : LawM S m wv) (h1 : 1 ≤ days) (h9 : days ≤ 96) : RE g mX11_year 10 [.ref 59, .int x, .int (nI days), .int 3] S (some (.int (mcu (yrX (S0 S) x days ns nr np ow m wv) 536 np))) (S0 S) := by
  refine RE_ofQ ⟨rfl, rfl⟩ (Nat.le_of_ble_eq_true rfl) (fun sz Q hQ => ?_)
  refine J_aload_n (pc := 0) dX11_year_0 rfl ?_
  refine J_iconst (pc := 1) (v := 0) dX11_year_1 (by decide) ?_
  refine J_puti (pc := 2) dX11_year_2 kc11 fl_X11_103 rfl ⟨rfl, rfl⟩ ?_
  refine J_aload_n (pc := 5) dX11_year_5 rfl ?_
  refine J_iload_n (pc := 6) dX11_year_6 rfl ?_
  refine J_iconst (pc := 7) (v := 1) dX11_year_7 (by decide) ?_
  refine J_bipush (pc := 8) (v := 96) dX11_year_8 (by decide) ?_
  refine J_csr (pc := 10) (N := mX11_in) dX11_year_10 ml_X11_137 cf_X11_in cs_X11_in r_X11_in rfl rfl (Nat.le_of_ble_eq_true rfl) (by decide) ?_
  refine J_ifp_eq (pc := 13) (tgt := 25) dX11_year_13 (by decide) (fun c13 => absurd (inw2 (a := 1) (b := 96) rfl rfl h1 h9 (by decide)) c13) (fun c13 => ?_)
  refine J_iload_n (pc := 16) dX11_year_16 rfl ?_
  refine J_iconst (pc := 17) (v := 0) dX11_year_17 (by decide) ?_
  refine J_iconst (pc := 18) (v := 3) dX11_year_18 (by decide) ?_
  refine J_csr (pc := 19) (N := mX11_in) dX11_year_19 ml_X11_137 cf_X11_in cs_X11_in r_X11_in rfl rfl (Nat.le_of_ble_eq_true rfl) (by decide) ?_
  refine J_ifp_ne (pc := 22) (tgt := 29) dX11_year_22 (by decide) (fun c22 => ?_) (fun c22 => absurd (by decide) c22)
  refine J_iconst (pc := 29) (v := 0) dX11_year_29 (by decide) ?_
  refine J_iconst (pc := 30) (v := 1) dX11_year_30 (by decide) ?_
  refine J_iconst (pc := 31) (v := 1) dX11_year_31 (by decide) ?_
  refine J_cvr (pc := 32) (N := mX11_bad) dX11_year_32 ml_X11_183 cf_X11_bad cv_X11_bad (r_X11_bad_f rfl) rfl rfl (Nat.le_of_ble_eq_true rfl) (by decide) (rv_of (ci := 11) rfl rfl rfl) ?_
  refine J_if_eq (pc := 35) (tgt := 40) dX11_year_35 (by decide) (fun c35 => ?_) (fun c35 => absurd rfl c35)
  refine J_aload_n (pc := 40) dX11_year_40 rfl ?_
  refine J_iload_n (pc := 41) dX11_year_41 rfl ?_
  refine J_iload_n (pc := 42) dX11_year_42 rfl ?_
  refine J_cvx (pc := 43) (N := mX11_yearBy) dX11_year_43 ml_X11_398 cf_X11_yearBy cv_X11_yearBy (r_X11_yearBy (S := S0 S) hH hW hM h9) rfl rfl (Nat.le_of_ble_eq_true rfl) (by decide) (rv_of (ci := 11) rfl rfl rfl) ?_
  intro T
  have hof := off3_yrX (off3_r (S0 S)) x days ns nr np ow m wv
  obtain ⟨X, hX⟩ : ∃ X, X = yrX (S0 S) x days ns nr np ow m wv := ⟨_, rfl⟩
  refine J_cg2 (S' := w1 X T) (by rw [hX]; rfl) ?_
  rw [← hX] at hof hQ
  have hHx := off3_MH hof hH
  have hMx := off3_LawM hof hW hM
  refine J_iload_n (pc := 46) dX11_year_46 rfl ?_
  refine J_tableOut (pc := 47) (tgt := 91) dX11_year_47 (by decide) (by decide) ?_
  refine J_aload_n (pc := 91) dX11_year_91 rfl ?_
  refine J_aload_n (pc := 92) dX11_year_92 rfl ?_
  refine J_getr (pc := 93) dX11_year_93 kc11 fl_X11_76 rfl ?_
  refine J_cvr (pc := 96) (N := mX11_curedIn) dX11_year_96 ml_X11_329 cf_X11_curedIn cv_X11_curedIn (r_X11_curedIn (S := w1 X T) row536 hHx) rfl rfl (Nat.le_of_ble_eq_true rfl) (by decide) (rv_of (ci := 11) rfl rfl rfl) ?_
  exact J_iret (pc := 99) rfl rfl rfl dX11_year_99 (rqe hQ (off3_w1 hof) rfl)
theorem r_X11_span_er {g : Gp} {S : Sx} {x y z u v : Int32} {ns nr np : Nat} {ow : Nat → Nat} (hH : MH S ns nr np ow) (hv : ¬ ((1 ≤ y ∧ y ≤ 20) ∧ (1 ≤ z ∧ z ≤ 96) ∧ (0 ≤ u ∧ u ≤ 2) ∧ (0 ≤ v ∧ v ≤ nI np - 1))) : RT g mX11_span 2 [.ref 59, .int x, .int y, .int z, .int u, .int v] S (some (.int 0)) (er S 1 1) := by
  refine RT_ofQ ⟨rfl, rfl⟩ (Nat.le_of_ble_eq_true rfl) (fun sz Q hQ => ?_)
  refine J_aload_n (pc := 0) dX11_span_0 rfl ?_
  refine J_iconst (pc := 1) (v := 0) dX11_span_1 (by decide) ?_
  refine J_puti (pc := 2) dX11_span_2 kc11 fl_X11_103 rfl ⟨rfl, rfl⟩ ?_
  refine J_aload_n (pc := 5) dX11_span_5 rfl ?_
  refine J_iload_n (pc := 6) dX11_span_6 rfl ?_
  refine J_iconst (pc := 7) (v := 1) dX11_span_7 (by decide) ?_
  refine J_bipush (pc := 8) (v := 20) dX11_span_8 (by decide) ?_
  refine J_csr (pc := 10) (N := mX11_in) dX11_span_10 ml_X11_137 cf_X11_in cs_X11_in r_X11_in rfl rfl (Nat.le_of_ble_eq_true rfl) (by decide) ?_
  refine J_ifp_eq (pc := 13) (tgt := 45) dX11_span_13 (by decide) (fun c13 => ?_) (fun c13 => ?_)
  · refine J_iconst (pc := 45) (v := 1) dX11_span_45 (by decide) ?_
    refine J_goto (pc := 46) (tgt := 50) dX11_span_46 (by decide) ?_
    refine J_iconst (pc := 50) (v := 1) dX11_span_50 (by decide) ?_
    refine J_iconst (pc := 51) (v := 1) dX11_span_51 (by decide) ?_
    refine J_cvr (pc := 52) (N := mX11_bad) dX11_span_52 ml_X11_183 cf_X11_bad cv_X11_bad (r_X11_bad_t (k := 1) rfl (by decide) (by decide) rfl) rfl rfl (Nat.le_of_ble_eq_true rfl) (by decide) (rv_of (ci := 11) rfl rfl rfl) ?_
    refine J_if_eq (pc := 55) (tgt := 60) dX11_span_55 (by decide) (fun c55 => absurd c55 (by decide)) (fun c55 => ?_)
    refine J_iconst (pc := 58) (v := 0) dX11_span_58 (by decide) ?_
    exact J_iret (pc := 59) rfl rfl rfl dX11_span_59 (rq hQ (by first | rfl | simp [bI, *] | simp_all [bI]) rfl)
  · refine J_iload_n (pc := 16) dX11_span_16 rfl ?_
    refine J_iconst (pc := 17) (v := 1) dX11_span_17 (by decide) ?_
    refine J_bipush (pc := 18) (v := 96) dX11_span_18 (by decide) ?_
    refine J_csr (pc := 20) (N := mX11_in) dX11_span_20 ml_X11_137 cf_X11_in cs_X11_in r_X11_in rfl rfl (Nat.le_of_ble_eq_true rfl) (by decide) ?_
    refine J_ifp_eq (pc := 23) (tgt := 45) dX11_span_23 (by decide) (fun c23 => ?_) (fun c23 => ?_)
    · refine J_iconst (pc := 45) (v := 1) dX11_span_45 (by decide) ?_
      refine J_goto (pc := 46) (tgt := 50) dX11_span_46 (by decide) ?_
      refine J_iconst (pc := 50) (v := 1) dX11_span_50 (by decide) ?_
      refine J_iconst (pc := 51) (v := 1) dX11_span_51 (by decide) ?_
      refine J_cvr (pc := 52) (N := mX11_bad) dX11_span_52 ml_X11_183 cf_X11_bad cv_X11_bad (r_X11_bad_t (k := 1) rfl (by decide) (by decide) rfl) rfl rfl (Nat.le_of_ble_eq_true rfl) (by decide) (rv_of (ci := 11) rfl rfl rfl) ?_
      refine J_if_eq (pc := 55) (tgt := 60) dX11_span_55 (by decide) (fun c55 => absurd c55 (by decide)) (fun c55 => ?_)
      refine J_iconst (pc := 58) (v := 0) dX11_span_58 (by decide) ?_
      exact J_iret (pc := 59) rfl rfl rfl dX11_span_59 (rq hQ (by first | rfl | simp [bI, *] | simp_all [bI]) rfl)
    · refine J_iload (pc := 26) dX11_span_26 rfl ?_
      refine J_iconst (pc := 28) (v := 0) dX11_span_28 (by decide) ?_
      refine J_iconst (pc := 29) (v := 2) dX11_span_29 (by decide) ?_
      refine J_csr (pc := 30) (N := mX11_in) dX11_span_30 ml_X11_137 cf_X11_in cs_X11_in r_X11_in rfl rfl (Nat.le_of_ble_eq_true rfl) (by decide) ?_
      refine J_ifp_eq (pc := 33) (tgt := 45) dX11_span_33 (by decide) (fun c33 => ?_) (fun c33 => ?_)
      · refine J_iconst (pc := 45) (v := 1) dX11_span_45 (by decide) ?_
        refine J_goto (pc := 46) (tgt := 50) dX11_span_46 (by decide) ?_
        refine J_iconst (pc := 50) (v := 1) dX11_span_50 (by decide) ?_
        refine J_iconst (pc := 51) (v := 1) dX11_span_51 (by decide) ?_
        refine J_cvr (pc := 52) (N := mX11_bad) dX11_span_52 ml_X11_183 cf_X11_bad cv_X11_bad (r_X11_bad_t (k := 1) rfl (by decide) (by decide) rfl) rfl rfl (Nat.le_of_ble_eq_true rfl) (by decide) (rv_of (ci := 11) rfl rfl rfl) ?_
        refine J_if_eq (pc := 55) (tgt := 60) dX11_span_55 (by decide) (fun c55 => absurd c55 (by decide)) (fun c55 => ?_)
        refine J_iconst (pc := 58) (v := 0) dX11_span_58 (by decide) ?_
        exact J_iret (pc := 59) rfl rfl rfl dX11_span_59 (rq hQ (by first | rfl | simp [bI, *] | simp_all [bI]) rfl)
      · refine J_aload_n (pc := 36) dX11_span_36 rfl ?_
        refine J_iload (pc := 37) dX11_span_37 rfl ?_
        refine J_cvr (pc := 39) (N := mX11_isPerson) dX11_span_39 ml_X11_342 cf_X11_isPerson cv_X11_isPerson (r_X11_isPerson (S := S0 S) hH) rfl rfl (Nat.le_of_ble_eq_true rfl) (by decide) (rv_of (ci := 11) rfl rfl rfl) ?_
        refine J_ifp_ne (pc := 42) (tgt := 49) dX11_span_42 (by decide) (fun c42 => absurd ⟨c13, c23, c33, c42⟩ hv) (fun c42 => ?_)
        refine J_iconst (pc := 45) (v := 1) dX11_span_45 (by decide) ?_
        refine J_goto (pc := 46) (tgt := 50) dX11_span_46 (by decide) ?_
        refine J_iconst (pc := 50) (v := 1) dX11_span_50 (by decide) ?_
        refine J_iconst (pc := 51) (v := 1) dX11_span_51 (by decide) ?_
        refine J_cvr (pc := 52) (N := mX11_bad) dX11_span_52 ml_X11_183 cf_X11_bad cv_X11_bad (r_X11_bad_t (k := 1) rfl (by decide) (by decide) rfl) rfl rfl (Nat.le_of_ble_eq_true rfl) (by decide) (rv_of (ci := 11) rfl rfl rfl) ?_
        refine J_if_eq (pc := 55) (tgt := 60) dX11_span_55 (by decide) (fun c55 => absurd c55 (by decide)) (fun c55 => ?_)
        refine J_iconst (pc := 58) (v := 0) dX11_span_58 (by decide) ?_
        exact J_iret (pc := 59) rfl rfl rfl dX11_span_59 (rq hQ (by first | rfl | simp [bI, *] | simp_all [bI]) rfl)
/-- the state and the three numbers behind k years -/
noncomputable def spT (S : Sx) (x : Int32) (days ns nr np : Nat) (ow : Nat → Nat) (m : Nat) (wv : Nat → Nat × Nat) (p : Nat) : Nat → Sx × Int32 × Int32 × Int32
  | 0 => (S, -1, 0, 0)
  | k + 1 => let t := spT S x days ns nr np ow m wv p k
    let X := yrX t.1 (x + ix k) days ns nr np ow m wv
    let n := on1 (mcu X 536 np) 10 - on1 (mcu X 535 np) 10
    (X, (if t.2.1 = -1 then n else if t.2.1 < n then t.2.1 else n), (if n < t.2.2.1 then t.2.2.1 else n), t.2.2.2 + (if mcu X 536 np >>> (nI p &&& 31) &&& 1 = 1 then 1 else 0))
theorem off3_spT {S S' : Sx} (h : off3 S S') (x : Int32) (days ns nr np : Nat) (ow : Nat → Nat) (m : Nat) (wv : Nat → Nat × Nat) (p : Nat) : ∀ k, off3 S (spT S' x days ns nr np ow m wv p k).1
  | 0 => h
  | k + 1 => off3_yrX (off3_spT h x days ns nr np ow m wv p k) _ _ _ _ _ _ _ _
theorem r_X11_span {g : Gp} {S : Sx} {x : Int32} {q days w p : Nat} {ns nr np m : Nat} {ow : Nat → Nat} {wv : Nat → Nat × Nat} (hH : MH S ns nr np ow) (hW : LawW m wv) (hM : LawM S m wv) (q1 : 1 ≤ q) (q2 : q ≤ 20) (h1 : 1 ≤ days) (h9 : days ≤ 96) (hw : w ≤ 2) (hp : p < np) : RE g mX11_span 10 [.ref 59, .int x, .int (nI q), .int (nI days), .int (nI w), .int (nI p)] S (some (.int (if nI w = 0 then (spT (S0 S) x days ns nr np ow m wv p q).2.1 else if nI w = 1 then (spT (S0 S) x days ns nr np ow m wv p q).2.2.1 else (spT (S0 S) x days ns nr np ow m wv p q).2.2.2))) (S0 S) := by
  refine RE_ofQ ⟨rfl, rfl⟩ (Nat.le_of_ble_eq_true rfl) (fun sz Q hQ => ?_)
  have hH' := hH
  obtain ⟨e0, e1, e2, l0, l1, l2, ho⟩ := hH'
  refine J_aload_n (pc := 0) dX11_span_0 rfl ?_
  refine J_iconst (pc := 1) (v := 0) dX11_span_1 (by decide) ?_
  refine J_puti (pc := 2) dX11_span_2 kc11 fl_X11_103 rfl ⟨rfl, rfl⟩ ?_
  refine J_aload_n (pc := 5) dX11_span_5 rfl ?_
  refine J_iload_n (pc := 6) dX11_span_6 rfl ?_
  refine J_iconst (pc := 7) (v := 1) dX11_span_7 (by decide) ?_
  refine J_bipush (pc := 8) (v := 20) dX11_span_8 (by decide) ?_
  refine J_csr (pc := 10) (N := mX11_in) dX11_span_10 ml_X11_137 cf_X11_in cs_X11_in r_X11_in rfl rfl (Nat.le_of_ble_eq_true rfl) (by decide) ?_
  refine J_ifp_eq (pc := 13) (tgt := 45) dX11_span_13 (by decide) (fun c13 => absurd (inw2 (a := 1) (b := 20) rfl rfl q1 q2 (by decide)) c13) (fun c13 => ?_)
  refine J_iload_n (pc := 16) dX11_span_16 rfl ?_
  refine J_iconst (pc := 17) (v := 1) dX11_span_17 (by decide) ?_
  refine J_bipush (pc := 18) (v := 96) dX11_span_18 (by decide) ?_
  refine J_csr (pc := 20) (N := mX11_in) dX11_span_20 ml_X11_137 cf_X11_in cs_X11_in r_X11_in rfl rfl (Nat.le_of_ble_eq_true rfl) (by decide) ?_
  refine J_ifp_eq (pc := 23) (tgt := 45) dX11_span_23 (by decide) (fun c23 => absurd (inw2 (a := 1) (b := 96) rfl rfl h1 h9 (by decide)) c23) (fun c23 => ?_)
  refine J_iload (pc := 26) dX11_span_26 rfl ?_
  refine J_iconst (pc := 28) (v := 0) dX11_span_28 (by decide) ?_
  refine J_iconst (pc := 29) (v := 2) dX11_span_29 (by decide) ?_
  refine J_csr (pc := 30) (N := mX11_in) dX11_span_30 ml_X11_137 cf_X11_in cs_X11_in r_X11_in rfl rfl (Nat.le_of_ble_eq_true rfl) (by decide) ?_
  refine J_ifp_eq (pc := 33) (tgt := 45) dX11_span_33 (by decide) (fun c33 => absurd (inw 2 rfl hw (by decide)) c33) (fun c33 => ?_)
  refine J_aload_n (pc := 36) dX11_span_36 rfl ?_
  refine J_iload (pc := 37) dX11_span_37 rfl ?_
  refine J_cvr (pc := 39) (N := mX11_isPerson) dX11_span_39 ml_X11_342 cf_X11_isPerson cv_X11_isPerson (r_X11_isPerson (S := S0 S) hH) rfl rfl (Nat.le_of_ble_eq_true rfl) (by decide) (rv_of (ci := 11) rfl rfl rfl) ?_
  refine J_ifp_ne (pc := 42) (tgt := 49) dX11_span_42 (by decide) (fun c42 => ?_) (fun c42 => absurd (inx hp (by omega)) c42)
  refine J_iconst (pc := 49) (v := 0) dX11_span_49 (by decide) ?_
  refine J_iconst (pc := 50) (v := 1) dX11_span_50 (by decide) ?_
  refine J_iconst (pc := 51) (v := 1) dX11_span_51 (by decide) ?_
  refine J_cvr (pc := 52) (N := mX11_bad) dX11_span_52 ml_X11_183 cf_X11_bad cv_X11_bad (r_X11_bad_f rfl) rfl rfl (Nat.le_of_ble_eq_true rfl) (by decide) (rv_of (ci := 11) rfl rfl rfl) ?_
  refine J_if_eq (pc := 55) (tgt := 60) dX11_span_55 (by decide) (fun c55 => ?_) (fun c55 => absurd rfl c55)
  refine J_iconst (pc := 60) (v := -1) dX11_span_60 (by decide) ?_
  refine J_istore (pc := 61) dX11_span_61 (by decide) rfl ?_
  refine J_iconst (pc := 63) (v := 0) dX11_span_63 (by decide) ?_
  refine J_istore (pc := 64) dX11_span_64 (by decide) rfl ?_
  refine J_iconst (pc := 66) (v := 0) dX11_span_66 (by decide) ?_
  refine J_istore (pc := 67) dX11_span_67 (by decide) rfl ?_
  refine J_iconst (pc := 69) (v := 0) dX11_span_69 (by decide) ?_
  refine J_istore (pc := 70) dX11_span_70 (by decide) rfl ?_
  show J g mX11_span 10 [] 72 [some (.ref 59), some (.int x), some (.int (nI q)), some (.int (nI days)), some (.int (nI w)), some (.int (nI p)), some (.int (spT (S0 S) x days ns nr np ow m wv p 0).2.1), some (.int (spT (S0 S) x days ns nr np ow m wv p 0).2.2.1), some (.int (spT (S0 S) x days ns nr np ow m wv p 0).2.2.2), some (.int (ix 0)), none] [] (hs (w1 (spT (S0 S) x days ns nr np ow m wv p 0).1 S)) sz 0 0 Q
  refine dn_ind (n := q) (P := fun i => ∀ T, J g mX11_span 10 [] 72 [some (.ref 59), some (.int x), some (.int (nI q)), some (.int (nI days)), some (.int (nI w)), some (.int (nI p)), some (.int (spT (S0 S) x days ns nr np ow m wv p i).2.1), some (.int (spT (S0 S) x days ns nr np ow m wv p i).2.2.1), some (.int (spT (S0 S) x days ns nr np ow m wv p i).2.2.2), some (.int (ix i)), none] [] (hs (w1 (spT (S0 S) x days ns nr np ow m wv p i).1 T)) sz 0 0 Q) ?_ (fun i hi ih => ?_) 0 (Nat.zero_le _) _
  · intro T
    have hof := off3_spT (off3_r (S0 S)) x days ns nr np ow m wv p q
    refine J_iload (pc := 72) dX11_span_72 rfl ?_
    refine J_iload_n (pc := 74) dX11_span_74 rfl ?_
    refine J_icmp_ge (pc := 75) (tgt := 154) dX11_span_75 (by decide) (fun c75 => ?_) (fun c75 => absurd (ix_ge rfl) c75)
    refine J_mid 177 ((if nI w = 0 then (spT (S0 S) x days ns nr np ow m wv p q).2.1 else if nI w = 1 then (spT (S0 S) x days ns nr np ow m wv p q).2.2.1 else (spT (S0 S) x days ns nr np ow m wv p q).2.2.2)) ?_ (fun hj154 => ?_)
    · exact J_iret (pc := 177) rfl rfl rfl dX11_span_177 (rqe hQ (off3_w1 hof) rfl)
    · refine J_iload (pc := 154) dX11_span_154 rfl ?_
      refine J_if_ne (pc := 156) (tgt := 164) dX11_span_156 (by decide) (fun c156 => ?_) (fun c156 => ?_)
      · refine J_iload (pc := 164) dX11_span_164 rfl ?_
        refine J_iconst (pc := 166) (v := 1) dX11_span_166 (by decide) ?_
        refine J_icmp_ne (pc := 167) (tgt := 175) dX11_span_167 (by decide) (fun c167 => ?_) (fun c167 => ?_)
        · refine J_iload (pc := 175) dX11_span_175 rfl ?_
          exact hj154 _ (by first | exact (if_pos c156).symm | (rw [if_neg c156]; first | exact (if_pos c167).symm | exact (if_neg c167).symm))
        · refine J_iload (pc := 170) dX11_span_170 rfl ?_
          refine J_goto (pc := 172) (tgt := 177) dX11_span_172 (by decide) ?_
          exact hj154 _ (by first | exact (if_pos c156).symm | (rw [if_neg c156]; first | exact (if_pos c167).symm | exact (if_neg c167).symm))
      · refine J_iload (pc := 159) dX11_span_159 rfl ?_
        refine J_goto (pc := 161) (tgt := 177) dX11_span_161 (by decide) ?_
        exact hj154 _ (by first | exact (if_pos c156).symm | (rw [if_neg c156]; first | exact (if_pos c167).symm | exact (if_neg c167).symm))
  · intro T
    have hof := off3_spT (off3_r (S0 S)) x days ns nr np ow m wv p i
    have hofX := off3_spT (off3_r (S0 S)) x days ns nr np ow m wv p (i + 1)
    have hHi := off3_MH hof hH
    have hMi := off3_LawM hof hW hM
    have hHx := off3_MH hofX hH
    obtain ⟨Y, hY⟩ : ∃ Y, Y = (spT (S0 S) x days ns nr np ow m wv p i).1 := ⟨_, rfl⟩
    obtain ⟨X, hX⟩ : ∃ X, X = (spT (S0 S) x days ns nr np ow m wv p (i + 1)).1 := ⟨_, rfl⟩
    obtain ⟨t1, ht1⟩ : ∃ t1, t1 = (spT (S0 S) x days ns nr np ow m wv p i).2.1 := ⟨_, rfl⟩
    obtain ⟨t2, ht2⟩ : ∃ t2, t2 = (spT (S0 S) x days ns nr np ow m wv p i).2.2.1 := ⟨_, rfl⟩
    obtain ⟨t3, ht3⟩ : ∃ t3, t3 = (spT (S0 S) x days ns nr np ow m wv p i).2.2.2 := ⟨_, rfl⟩
    have hXY : yrX Y (x + ix i) days ns nr np ow m wv = X := by rw [hX, hY]; rfl
    obtain ⟨n, hn⟩ : ∃ n, n = on1 (mcu X 536 np) 10 - on1 (mcu X 535 np) 10 := ⟨_, rfl⟩
    have g1 : (spT (S0 S) x days ns nr np ow m wv p (i + 1)).2.1 = (if t1 = -1 then n else if t1 < n then t1 else n) := by rw [ht1, hn, hX]; rfl
    have g2 : (spT (S0 S) x days ns nr np ow m wv p (i + 1)).2.2.1 = (if n < t2 then t2 else n) := by rw [ht2, hn, hX]; rfl
    have g3 : (spT (S0 S) x days ns nr np ow m wv p (i + 1)).2.2.2 = t3 + (if mcu X 536 np >>> (nI p &&& 31) &&& 1 = 1 then 1 else 0) := by rw [ht3, hX]; rfl
    rw [← hX, g1, g2, g3] at ih
    rw [← hX] at hofX hHx
    rw [← hY, ← ht1, ← ht2, ← ht3]
    rw [← hY] at hof hHi hMi
    clear g1 g2 g3 hX hY ht1 ht2 ht3
    refine J_iload (pc := 72) dX11_span_72 rfl ?_
    refine J_iload_n (pc := 74) dX11_span_74 rfl ?_
    refine J_icmp_ge (pc := 75) (tgt := 154) dX11_span_75 (by decide) (fun c75 => absurd c75 (ix_lt rfl hi (by omega))) (fun c75 => ?_)
    refine J_aload_n (pc := 78) dX11_span_78 rfl ?_
    refine J_iload_n (pc := 79) dX11_span_79 rfl ?_
    refine J_iload (pc := 80) dX11_span_80 rfl ?_
    refine J_iadd (pc := 82) dX11_span_82 ?_
    refine J_iload_n (pc := 83) dX11_span_83 rfl ?_
    refine J_cvx (pc := 84) (N := mX11_yearBy) dX11_span_84 ml_X11_398 cf_X11_yearBy cv_X11_yearBy (r_X11_yearBy (S := Y) hHi hW hMi h9) rfl rfl (Nat.le_of_ble_eq_true rfl) (by decide) (rv_of (ci := 11) rfl rfl rfl) ?_
    intro T
    refine J_cg2 (S' := w1 X T) (by rw [← hXY]; rfl) ?_
    refine J_aload_n (pc := 87) dX11_span_87 rfl ?_
    refine J_cvr (pc := 88) (N := mX11_curedMore) dX11_span_88 ml_X11_401 cf_X11_curedMore cv_X11_curedMore (r_X11_curedMore (S := w1 X T) hHx) rfl rfl (Nat.le_of_ble_eq_true rfl) (by decide) (rv_of (ci := 11) rfl rfl rfl) ?_
    refine J_t1 (y := n) hn.symm ?_
    refine J_istore (pc := 91) dX11_span_91 (by decide) rfl ?_
    refine J_mid 111 (if t1 = -1 then n else if t1 < n then t1 else n) ?_ (fun hj93 => ?_)
    · refine J_istore (pc := 111) dX11_span_111 (by decide) rfl ?_
      refine J_iload (pc := 113) dX11_span_113 rfl ?_
      refine J_iload (pc := 115) dX11_span_115 rfl ?_
      refine J_csr (pc := 117) (N := mX11_more) dX11_span_117 ml_X11_248 cf_X11_more cs_X11_more r_X11_more rfl rfl (Nat.le_of_ble_eq_true rfl) (by decide) ?_
      refine J_istore (pc := 120) dX11_span_120 (by decide) rfl ?_
      refine J_iload (pc := 122) dX11_span_122 rfl ?_
      refine J_aload_n (pc := 124) dX11_span_124 rfl ?_
      refine J_aload_n (pc := 125) dX11_span_125 rfl ?_
      refine J_getr (pc := 126) dX11_span_126 kc11 fl_X11_76 rfl ?_
      refine J_cvr (pc := 129) (N := mX11_curedIn) dX11_span_129 ml_X11_329 cf_X11_curedIn cv_X11_curedIn (r_X11_curedIn (S := w1 X T) row536 hHx) rfl rfl (Nat.le_of_ble_eq_true rfl) (by decide) (rv_of (ci := 11) rfl rfl rfl) ?_
      refine J_iload (pc := 132) dX11_span_132 rfl ?_
      refine J_csr (pc := 134) (N := mX11_has) dX11_span_134 ml_X11_263 cf_X11_has cs_X11_has (r_X11_has (S := w1 X T)) rfl rfl (Nat.le_of_ble_eq_true rfl) (by decide) ?_
      refine J_mid1 145 (if mcu X 536 np >>> (nI p &&& 31) &&& 1 = 1 then 1 else 0) ?_ (fun hj137 => ?_)
      · refine J_iadd (pc := 145) dX11_span_145 ?_
        refine J_istore (pc := 146) dX11_span_146 (by decide) rfl ?_
        refine J_iinc (pc := 148) (v := 1) dX11_span_148 rfl (by decide) rfl ?_
        refine J_goto (pc := 151) (tgt := 72) dX11_span_151 (by decide) ?_
        refine J_forget (fun k u hu => ?_) (ih T)
        rcases k with _ | _ | _ | _ | _ | _ | _ | _ | _ | _ | _ | k <;> first | exact hu | (simp at hu)
      · refine J_ifp_eq (pc := 137) (tgt := 144) dX11_span_137 (by decide) (fun c137 => ?_) (fun c137 => ?_)
        · refine J_iconst (pc := 144) (v := 0) dX11_span_144 (by decide) ?_
          exact hj137 _ (by first | exact (if_pos c137).symm | exact (if_neg c137).symm)
        · refine J_iconst (pc := 140) (v := 1) dX11_span_140 (by decide) ?_
          refine J_goto (pc := 141) (tgt := 145) dX11_span_141 (by decide) ?_
          exact hj137 _ (by first | exact (if_pos c137).symm | exact (if_neg c137).symm)
    · refine J_iload (pc := 93) dX11_span_93 rfl ?_
      refine J_iconst (pc := 95) (v := -1) dX11_span_95 (by decide) ?_
      refine J_icmp_ne (pc := 96) (tgt := 104) dX11_span_96 (by decide) (fun c96 => ?_) (fun c96 => ?_)
      · refine J_iload (pc := 104) dX11_span_104 rfl ?_
        refine J_iload (pc := 106) dX11_span_106 rfl ?_
        refine J_csr (pc := 108) (N := mX11_less) dX11_span_108 ml_X11_245 cf_X11_less cs_X11_less r_X11_less rfl rfl (Nat.le_of_ble_eq_true rfl) (by decide) ?_
        exact hj93 _ (by first | exact (if_neg c96).symm | exact (if_pos c96).symm)
      · refine J_iload (pc := 99) dX11_span_99 rfl ?_
        refine J_goto (pc := 101) (tgt := 111) dX11_span_101 (by decide) ?_
        exact hj93 _ (by first | exact (if_neg c96).symm | exact (if_pos c96).symm)
