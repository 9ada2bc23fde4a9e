/-- c places of row a are given back -/
def reA (S : Sx) (a c : Nat) : Nat → Nat → Int32 := fun b k => if b = 535 ∧ k < 45 ∧ k + 1 < c then sa S a (k + 1) else if (538 ≤ b ∧ b < 554) ∧ k < 45 ∧ 46 + 45 * (b - 538) + k < c then sa S a (46 + 45 * (b - 538) + k) else sa S b k
def reS (S : Sx) (a c : Nat) : Sx := (sf (sF (sF S 59 36 (sa S a 0)) 59 39 (nI c)), sp S, reA S a c, sl S, sx S)
theorem reA_a {S : Sx} {a c : Nat} (h1 : 535 ≠ a) (h2 : ∀ w, w < 16 → 538 + w ≠ a) : reA S a c a = sa S a := by
  funext k
  unfold reA
  rw [if_neg (fun q => h1 q.1.symm), if_neg (fun q => h2 (a - 538) (by omega) (by omega))]
set_option maxRecDepth 8000 in
theorem reS_now {S : Sx} {a k : Nat} {v : Int32} (hk : k < 45) (hv : v = sa S a (k + 1)) : sA (sF (reS S a (k + 1)) 59 39 (nI (k + 1 + 1))) 535 k v = reS S a (k + 1 + 1) := by
  subst hv
  have e : up2 (reA S a (k + 1)) 535 k (sa S a (k + 1)) = reA S a (k + 1 + 1) := by
    funext b y
    unfold up2 reA
    (repeat' split) <;> first | (exfalso; omega) | with_reducible rfl | (congr 1; omega)
  show (sf (sF (sF (sF S 59 36 (sa S a 0)) 59 39 (nI (k + 1))) 59 39 (nI (k + 1 + 1))), sp S, up2 (reA S a (k + 1)) 535 k (sa S a (k + 1)), sl S, sx S) = (_, sp S, _, sl S, sx S)
  rw [e, sF_sF]
set_option maxRecDepth 8000 in
theorem reS_bef {S : Sx} {a w k : Nat} {v : Int32} (hw : w < 16) (hk : k < 45) (hv : v = sa S a (46 + 45 * w + k)) : sA (sF (reS S a (46 + 45 * w + k)) 59 39 (nI (46 + 45 * w + k + 1))) (538 + w) k v = reS S a (46 + 45 * w + k + 1) := by
  subst hv
  have e : up2 (reA S a (46 + 45 * w + k)) (538 + w) k (sa S a (46 + 45 * w + k)) = reA S a (46 + 45 * w + k + 1) := by
    funext b y
    unfold up2 reA
    (repeat' split) <;> first | (exfalso; omega) | with_reducible rfl | (congr 1; omega)
  show (sf (sF (sF (sF S 59 36 (sa S a 0)) 59 39 (nI (46 + 45 * w + k))) 59 39 (nI (46 + 45 * w + k + 1))), sp S, up2 (reA S a (46 + 45 * w + k)) (538 + w) k (sa S a (46 + 45 * w + k)), sl S, sx S) = (_, sp S, _, sl S, sx S)
  rw [e, sF_sF]
theorem reS_1 {S : Sx} {a : Nat} : sF (sF (sF S 59 39 0) 59 39 (nI (0 + 1))) 59 36 (sa S a 0) = reS S a 1 := by
  have e : reA S a 1 = sa S := by
    funext b y
    unfold reA
    rw [if_neg (fun q => by omega), if_neg (fun q => by omega)]
  have e2 : sf (sF (sF (sF S 59 39 0) 59 39 (nI (0 + 1))) 59 36 (sa S a 0)) = sf (sF (sF S 59 36 (sa S a 0)) 59 39 (nI 1)) := by
    rw [sF_sF]
    funext b y
    show up2 (up2 (sf S) 59 39 (nI (0 + 1))) 59 36 (sa S a 0) b y = up2 (up2 (sf S) 59 36 (sa S a 0)) 59 39 (nI 1) b y
    unfold up2
    (repeat' split) <;> first | rfl | (exfalso; omega)
  show (sf (sF (sF (sF S 59 39 0) 59 39 (nI (0 + 1))) 59 36 (sa S a 0)), sp S, sa S, sl S, sx S) = (_, sp S, reA S a 1, sl S, sx S)
  rw [e, e2]
theorem r_X11_putsAll_t {g : Gp} {S : Sx} {a : Nat} (ha : isKRow a) : RT g mX11_putsAll 1 [.ref 59, .ref a, .int 1] S none (reS S a 766) := by
  refine RT_ofQ ⟨rfl, rfl⟩ (Nat.le_of_ble_eq_true rfl) (fun sz Q hQ => ?_)
  have n5 : 535 ≠ a := kr_ne ha row535 (by decide)
  have nb : ∀ w, w < 16 → 538 + w ≠ a := fun w hw => kr_ne ha (row_before hw) (by decide)
  have ra : ∀ c, sa (reS S a c) a = sa S a := fun c => reA_a n5 nb
  refine J_aload_n (pc := 0) dX11_putsAll_0 rfl ?_
  refine J_iconst (pc := 1) (v := 0) dX11_putsAll_1 (by decide) ?_
  refine J_puti (pc := 2) dX11_putsAll_2 kc11 fl_X11_404 rfl ⟨rfl, rfl⟩ ?_
  refine J_aload_n (pc := 5) dX11_putsAll_5 rfl ?_
  refine J_aload_n (pc := 6) dX11_putsAll_6 rfl ?_
  refine J_aload_n (pc := 7) dX11_putsAll_7 rfl ?_
  refine J_aload_n (pc := 8) dX11_putsAll_8 rfl ?_
  refine J_geti (pc := 9) dX11_putsAll_9 kc11 fl_X11_206 rfl ?_
  refine J_iload_n (pc := 12) dX11_putsAll_12 rfl ?_
  refine J_cvr (pc := 13) (N := mX11_puts) dX11_putsAll_13 ml_X11_407 cf_X11_puts cv_X11_puts (r_X11_puts_t (k := 0) ha rfl (by decide)) rfl rfl (Nat.le_of_ble_eq_true rfl) (by decide) (rv_of (ci := 11) rfl rfl rfl) ?_
  refine J_puti (pc := 16) dX11_putsAll_16 kc11 fl_X11_206 rfl ⟨rfl, rfl⟩ ?_
  refine J_cg2 reS_1 ?_
  refine J_iconst (pc := 19) (v := 0) dX11_putsAll_19 (by decide) ?_
  refine J_istore_n (pc := 20) dX11_putsAll_20 (by decide) rfl ?_
  show J g mX11_putsAll 1 [] 21 [some (.ref 59), some (.ref a), some (.int 1), some (.int (ix 0)), none] [] (hs (reS S a (0 + 1))) sz 0 0 Q
  refine dn_ind (n := 45) (P := fun i => J g mX11_putsAll 1 [] 21 [some (.ref 59), some (.ref a), some (.int 1), some (.int (ix i)), none] [] (hs (reS S a (i + 1))) sz 0 0 Q) ?_ (fun i hi ih => ?_) 0 (Nat.zero_le _)
  · refine J_iload_n (pc := 21) dX11_putsAll_21 rfl ?_
    refine J_bipush (pc := 22) (v := 45) dX11_putsAll_22 (by decide) ?_
    refine J_icmp_ge (pc := 24) (tgt := 51) dX11_putsAll_24 (by decide) (fun c24 => ?_) (fun c24 => absurd (ix_ge (n := 45) rfl) c24)
    refine J_iconst (pc := 51) (v := 0) dX11_putsAll_51 (by decide) ?_
    refine J_istore_n (pc := 52) dX11_putsAll_52 (by decide) rfl ?_
    show J g mX11_putsAll 1 [] 53 [some (.ref 59), some (.ref a), some (.int 1), some (.int (ix 0)), none] [] (hs (reS S a (46 + 45 * 0))) sz 0 0 Q
    refine dn_ind (n := 16) (P := fun w => J g mX11_putsAll 1 [] 53 [some (.ref 59), some (.ref a), some (.int 1), some (.int (ix w)), none] [] (hs (reS S a (46 + 45 * w))) sz 0 0 Q) ?_ (fun w hw ih => ?_) 0 (Nat.zero_le _)
    · refine J_iload_n (pc := 53) dX11_putsAll_53 rfl ?_
      refine J_bipush (pc := 54) (v := 16) dX11_putsAll_54 (by decide) ?_
      refine J_icmp_ge (pc := 56) (tgt := 105) dX11_putsAll_56 (by decide) (fun c56 => ?_) (fun c56 => absurd (ix_ge (n := 16) rfl) c56)
      exact J_ret (pc := 105) rfl rfl dX11_putsAll_105 (rqv hQ rfl)
    · refine J_iload_n (pc := 53) dX11_putsAll_53 rfl ?_
      refine J_bipush (pc := 54) (v := 16) dX11_putsAll_54 (by decide) ?_
      refine J_icmp_ge (pc := 56) (tgt := 105) dX11_putsAll_56 (by decide) (fun c56 => absurd c56 (ix_lt (n := 16) rfl hw (by decide))) (fun c56 => ?_)
      refine J_iconst (pc := 59) (v := 0) dX11_putsAll_59 (by decide) ?_
      refine J_istore (pc := 60) dX11_putsAll_60 (by decide) rfl ?_
      have ih0 := ih
      clear ih
      show J g mX11_putsAll 1 [] 62 [some (.ref 59), some (.ref a), some (.int 1), some (.int (ix w)), some (.int (ix 0))] [] (hs (reS S a (46 + 45 * w + 0))) sz 0 0 Q
      refine dn_ind (n := 45) (P := fun k => J g mX11_putsAll 1 [] 62 [some (.ref 59), some (.ref a), some (.int 1), some (.int (ix w)), some (.int (ix k))] [] (hs (reS S a (46 + 45 * w + k))) sz 0 0 Q) ?_ (fun k hi ih => ?_) 0 (Nat.zero_le _)
      · refine J_iload (pc := 62) dX11_putsAll_62 rfl ?_
        refine J_bipush (pc := 64) (v := 45) dX11_putsAll_64 (by decide) ?_
        refine J_icmp_ge (pc := 66) (tgt := 99) dX11_putsAll_66 (by decide) (fun c66 => ?_) (fun c66 => absurd (ix_ge (n := 45) rfl) c66)
        refine J_iinc (pc := 99) (v := 1) dX11_putsAll_99 rfl (by decide) rfl ?_
        refine J_goto (pc := 102) (tgt := 53) dX11_putsAll_102 (by decide) ?_
        refine J_forget (fun j u hu => ?_) (J_cg2 (by rw [show 46 + 45 * w + 45 = 46 + 45 * (w + 1) by omega]) ih0)
        rcases j with _ | _ | _ | _ | _ | j <;> first | exact hu | (simp at hu)
      · refine J_iload (pc := 62) dX11_putsAll_62 rfl ?_
        refine J_bipush (pc := 64) (v := 45) dX11_putsAll_64 (by decide) ?_
        refine J_icmp_ge (pc := 66) (tgt := 99) dX11_putsAll_66 (by decide) (fun c66 => absurd c66 (ix_lt (n := 45) rfl hi (by decide))) (fun c66 => ?_)
        refine J_aload_n (pc := 69) dX11_putsAll_69 rfl ?_
        refine J_getr (pc := 70) dX11_putsAll_70 kc11 fl_X11_79 rfl ?_
        refine J_iload_n (pc := 73) dX11_putsAll_73 rfl ?_
        refine J_ar1 (pc := 74) dX11_putsAll_74 rfl (by first | with_reducible rfl | assumption | exact ix_nI _ | rfl) ⟨by first | decide | omega, by decide⟩ ?_
        refine J_iload (pc := 75) dX11_putsAll_75 rfl ?_
        refine J_aload_n (pc := 77) dX11_putsAll_77 rfl ?_
        refine J_aload_n (pc := 78) dX11_putsAll_78 rfl ?_
        refine J_aload_n (pc := 79) dX11_putsAll_79 rfl ?_
        refine J_getr (pc := 80) dX11_putsAll_80 kc11 fl_X11_79 rfl ?_
        refine J_iload_n (pc := 83) dX11_putsAll_83 rfl ?_
        refine J_ar1 (pc := 84) dX11_putsAll_84 rfl (by first | with_reducible rfl | assumption | exact ix_nI _ | rfl) ⟨by first | decide | omega, by decide⟩ ?_
        refine J_iload (pc := 85) dX11_putsAll_85 rfl ?_
        refine J_il (pc := 87) dX11_putsAll_87 (lay_before (by omega)) (by first | with_reducible rfl | assumption | exact ix_nI _ | rfl) ⟨by first | decide | omega, by decide⟩ ?_
        refine J_iload_n (pc := 88) dX11_putsAll_88 rfl ?_
        refine J_cvr (pc := 89) (N := mX11_puts) dX11_putsAll_89 ml_X11_407 cf_X11_puts cv_X11_puts (r_X11_puts_t (k := 46 + 45 * w + k) ha rfl (by omega)) rfl rfl (Nat.le_of_ble_eq_true rfl) (by decide) (rv_of (ci := 11) rfl rfl rfl) ?_
        refine J_is (pc := 92) dX11_putsAll_92 (lay_before (by omega)) (ix_nI k) ⟨by first | decide | omega, by decide⟩ ?_
        refine J_cg2 (reS_bef hw hi (congrFun (ra _) _)) ?_
        refine J_iinc (pc := 93) (v := 1) dX11_putsAll_93 rfl (by decide) rfl ?_
        refine J_goto (pc := 96) (tgt := 62) dX11_putsAll_96 (by decide) ?_
        exact ih
  · refine J_iload_n (pc := 21) dX11_putsAll_21 rfl ?_
    refine J_bipush (pc := 22) (v := 45) dX11_putsAll_22 (by decide) ?_
    refine J_icmp_ge (pc := 24) (tgt := 51) dX11_putsAll_24 (by decide) (fun c24 => absurd c24 (ix_lt (n := 45) rfl hi (by decide))) (fun c24 => ?_)
    refine J_aload_n (pc := 27) dX11_putsAll_27 rfl ?_
    refine J_getr (pc := 28) dX11_putsAll_28 kc11 fl_X11_73 rfl ?_
    refine J_iload_n (pc := 31) dX11_putsAll_31 rfl ?_
    refine J_aload_n (pc := 32) dX11_putsAll_32 rfl ?_
    refine J_aload_n (pc := 33) dX11_putsAll_33 rfl ?_
    refine J_aload_n (pc := 34) dX11_putsAll_34 rfl ?_
    refine J_getr (pc := 35) dX11_putsAll_35 kc11 fl_X11_73 rfl ?_
    refine J_iload_n (pc := 38) dX11_putsAll_38 rfl ?_
    refine J_il (pc := 39) dX11_putsAll_39 (by first | rfl | assumption) (by first | with_reducible rfl | assumption | exact ix_nI _ | rfl) ⟨by first | decide | omega, by decide⟩ ?_
    refine J_iload_n (pc := 40) dX11_putsAll_40 rfl ?_
    refine J_cvr (pc := 41) (N := mX11_puts) dX11_putsAll_41 ml_X11_407 cf_X11_puts cv_X11_puts (r_X11_puts_t (k := i + 1) ha rfl (by omega)) rfl rfl (Nat.le_of_ble_eq_true rfl) (by decide) (rv_of (ci := 11) rfl rfl rfl) ?_
    refine J_is (pc := 44) dX11_putsAll_44 (by first | rfl | assumption) (ix_nI i) ⟨by first | decide | omega, by decide⟩ ?_
    refine J_cg2 (reS_now hi (congrFun (ra _) _)) ?_
    refine J_iinc (pc := 45) (v := 1) dX11_putsAll_45 rfl (by decide) rfl ?_
    refine J_goto (pc := 48) (tgt := 21) dX11_putsAll_48 (by decide) ?_
    exact ih
theorem row_kept {k : Nat} (h : k < 3) : isKRow (555 + k) := lay_kept h
theorem r_X11_image_no {g : Gp} {S : Sx} (h : sf S 59 38 = 3) : RT g mX11_image 2 [.ref 59] S (some (.int (-1))) (S0 S) := by
  refine RT_ofQ ⟨rfl, rfl⟩ (Nat.le_of_ble_eq_true rfl) (fun sz Q hQ => ?_)
  refine J_aload_n (pc := 0) dX11_image_0 rfl ?_
  refine J_iconst (pc := 1) (v := 0) dX11_image_1 (by decide) ?_
  refine J_puti (pc := 2) dX11_image_2 kc11 fl_X11_103 rfl ⟨rfl, rfl⟩ ?_
  refine J_aload_n (pc := 5) dX11_image_5 rfl ?_
  refine J_geti (pc := 6) dX11_image_6 kc11 fl_X11_212 rfl ?_
  refine J_iconst (pc := 9) (v := 3) dX11_image_9 (by decide) ?_
  refine J_icmp_ne (pc := 10) (tgt := 15) dX11_image_10 (by decide) (fun c10 => absurd h c10) (fun c10 => ?_)
  refine J_iconst (pc := 13) (v := -1) dX11_image_13 (by decide) ?_
  exact J_iret (pc := 14) rfl rfl rfl dX11_image_14 (rq hQ (by first | rfl | simp [bI, *] | simp_all [bI]) rfl)
theorem r_X11_image {g : Gp} {S : Sx} {k : Nat} (h : sf S 59 38 = nI k) (hk : k < 3) : RT g mX11_image 2 [.ref 59] S (some (.int (nI (k + 1)))) (sF (imS (S0 S) (555 + k) 766) 59 38 (nI (k + 1))) := by
  refine RT_ofQ ⟨rfl, rfl⟩ (Nat.le_of_ble_eq_true rfl) (fun sz Q hQ => ?_)
  refine J_aload_n (pc := 0) dX11_image_0 rfl ?_
  refine J_iconst (pc := 1) (v := 0) dX11_image_1 (by decide) ?_
  refine J_puti (pc := 2) dX11_image_2 kc11 fl_X11_103 rfl ⟨rfl, rfl⟩ ?_
  refine J_aload_n (pc := 5) dX11_image_5 rfl ?_
  refine J_geti (pc := 6) dX11_image_6 kc11 fl_X11_212 rfl ?_
  refine J_iconst (pc := 9) (v := 3) dX11_image_9 (by decide) ?_
  refine J_icmp_ne (pc := 10) (tgt := 15) dX11_image_10 (by decide) (fun c10 => ?_) (fun c10 => absurd c10 (by show ¬ sf S 59 38 = 3; rw [h]; intro q; have := (nI_eq (b := 3) (by omega) (by decide)).mp q; omega))
  refine J_aload_n (pc := 15) dX11_image_15 rfl ?_
  refine J_aload_n (pc := 16) dX11_image_16 rfl ?_
  refine J_getr (pc := 17) dX11_image_17 kc11 fl_X11_82 rfl ?_
  refine J_aload_n (pc := 20) dX11_image_20 rfl ?_
  refine J_geti (pc := 21) dX11_image_21 kc11 fl_X11_212 rfl ?_
  refine J_ar1 (pc := 24) dX11_image_24 rfl h ⟨by first | decide | omega, by decide⟩ ?_
  refine J_iconst (pc := 25) (v := 0) dX11_image_25 (by decide) ?_
  refine J_cvv (pc := 26) (N := mX11_putsAll) dX11_image_26 ml_X11_411 cf_X11_putsAll cv_X11_putsAll (r_X11_putsAll_f (row_kept hk)) rfl rfl (Nat.le_of_ble_eq_true rfl) (by decide) (rv_of (ci := 11) rfl rfl rfl) ?_
  refine J_aload_n (pc := 29) dX11_image_29 rfl ?_
  refine J_dup (pc := 30) dX11_image_30 rfl ?_
  refine J_geti (pc := 31) dX11_image_31 kc11 fl_X11_212 rfl ?_
  refine J_t1 (y := nI k) h ?_
  refine J_iconst (pc := 34) (v := 1) dX11_image_34 (by decide) ?_
  refine J_iadd (pc := 35) dX11_image_35 ?_
  refine J_t1 (nI_1 k) ?_
  refine J_puti (pc := 36) dX11_image_36 kc11 fl_X11_212 rfl ⟨rfl, rfl⟩ ?_
  refine J_aload_n (pc := 39) dX11_image_39 rfl ?_
  refine J_geti (pc := 40) dX11_image_40 kc11 fl_X11_212 rfl ?_
  exact J_iret (pc := 43) rfl rfl rfl dX11_image_43 (rq hQ (by first | rfl | simp [bI, *] | simp_all [bI]) rfl)
theorem r_X11_restore_no {g : Gp} {S : Sx} (h : sf S 59 38 = 0) : RT g mX11_restore 2 [.ref 59] S (some (.int (-1))) (S0 S) := by
  refine RT_ofQ ⟨rfl, rfl⟩ (Nat.le_of_ble_eq_true rfl) (fun sz Q hQ => ?_)
  refine J_aload_n (pc := 0) dX11_restore_0 rfl ?_
  refine J_iconst (pc := 1) (v := 0) dX11_restore_1 (by decide) ?_
  refine J_puti (pc := 2) dX11_restore_2 kc11 fl_X11_103 rfl ⟨rfl, rfl⟩ ?_
  refine J_aload_n (pc := 5) dX11_restore_5 rfl ?_
  refine J_geti (pc := 6) dX11_restore_6 kc11 fl_X11_212 rfl ?_
  refine J_if_ne (pc := 9) (tgt := 14) dX11_restore_9 (by decide) (fun c9 => absurd h c9) (fun c9 => ?_)
  refine J_iconst (pc := 12) (v := -1) dX11_restore_12 (by decide) ?_
  exact J_iret (pc := 13) rfl rfl rfl dX11_restore_13 (rq hQ (by first | rfl | simp [bI, *] | simp_all [bI]) rfl)
theorem r_X11_restore {g : Gp} {S : Sx} {k : Nat} (h : sf S 59 38 = nI (k + 1)) (hk : k < 3) : RT g mX11_restore 2 [.ref 59] S (some (.int (nI k))) (sF (reS (sF (S0 S) 59 38 (nI k)) (555 + k) 766) 59 37 0) := by
  refine RT_ofQ ⟨rfl, rfl⟩ (Nat.le_of_ble_eq_true rfl) (fun sz Q hQ => ?_)
  refine J_aload_n (pc := 0) dX11_restore_0 rfl ?_
  refine J_iconst (pc := 1) (v := 0) dX11_restore_1 (by decide) ?_
  refine J_puti (pc := 2) dX11_restore_2 kc11 fl_X11_103 rfl ⟨rfl, rfl⟩ ?_
  refine J_aload_n (pc := 5) dX11_restore_5 rfl ?_
  refine J_geti (pc := 6) dX11_restore_6 kc11 fl_X11_212 rfl ?_
  refine J_if_ne (pc := 9) (tgt := 14) dX11_restore_9 (by decide) (fun c9 => ?_) (fun c9 => absurd c9 (by show ¬ sf S 59 38 = 0; rw [h]; exact nI_ne0 (by omega) (by omega)))
  refine J_aload_n (pc := 14) dX11_restore_14 rfl ?_
  refine J_dup (pc := 15) dX11_restore_15 rfl ?_
  refine J_geti (pc := 16) dX11_restore_16 kc11 fl_X11_212 rfl ?_
  refine J_iconst (pc := 19) (v := 1) dX11_restore_19 (by decide) ?_
  refine J_isub (pc := 20) dX11_restore_20 ?_
  refine J_t1 (y := nI k) ((congrArg (fun z => z - (1 : Int32)) h).trans (nI_pred k)) ?_
  refine J_puti (pc := 21) dX11_restore_21 kc11 fl_X11_212 rfl ⟨rfl, rfl⟩ ?_
  refine J_aload_n (pc := 24) dX11_restore_24 rfl ?_
  refine J_aload_n (pc := 25) dX11_restore_25 rfl ?_
  refine J_getr (pc := 26) dX11_restore_26 kc11 fl_X11_82 rfl ?_
  refine J_aload_n (pc := 29) dX11_restore_29 rfl ?_
  refine J_geti (pc := 30) dX11_restore_30 kc11 fl_X11_212 rfl ?_
  refine J_ar1 (pc := 33) dX11_restore_33 rfl rfl ⟨by first | decide | omega, by decide⟩ ?_
  refine J_iconst (pc := 34) (v := 1) dX11_restore_34 (by decide) ?_
  refine J_cvv (pc := 35) (N := mX11_putsAll) dX11_restore_35 ml_X11_411 cf_X11_putsAll cv_X11_putsAll (r_X11_putsAll_t (row_kept hk)) rfl rfl (Nat.le_of_ble_eq_true rfl) (by decide) (rv_of (ci := 11) rfl rfl rfl) ?_
  refine J_aload_n (pc := 38) dX11_restore_38 rfl ?_
  refine J_iconst (pc := 39) (v := 0) dX11_restore_39 (by decide) ?_
  refine J_puti (pc := 40) dX11_restore_40 kc11 fl_X11_209 rfl ⟨rfl, rfl⟩ ?_
  refine J_aload_n (pc := 43) dX11_restore_43 rfl ?_
  refine J_geti (pc := 44) dX11_restore_44 kc11 fl_X11_212 rfl ?_
  exact J_iret (pc := 47) rfl rfl rfl dX11_restore_47 (rq hQ (by first | rfl | simp [bI, *] | simp_all [bI]) rfl)
