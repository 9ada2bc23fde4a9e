/-! who has lapsed -/
def LN (S : Sx) (nr ln : Nat) (lr : Nat → Nat) : Prop := sf S 59 35 = nI ln ∧ ln ≤ 10 ∧ ∀ k, k < ln → sa S (431 + k) 0 = nI (lr k) ∧ lr k < nr
def bit (x : Int32) (k : Int32) : Bool := decide (x >>> (k &&& 31) &&& 1 = 1)
def mpi (S : Sx) (nr : Nat) (ow : Nat → Nat) (m : Nat) (wv : Nat → Nat × Nat) (r : Nat) (b : Bool) : Int32 := if sa S 535 (16 + r) ≠ -1 then mpo S 535 nr ow m wv r (sa S 535 (16 + r) / (1 + bI b)) (sa S 535 (8 + ow r) + bI b) (sa S 535 44) else 0
def allB (p : Nat → Bool) : Nat → Bool
  | 0 => true
  | n + 1 => allB p n && p n
theorem allB_t {p : Nat → Bool} : ∀ {n : Nat}, allB p n = true → ∀ k, k < n → p k = true
  | 0, _, k, hk => absurd hk (by omega)
  | n + 1, h, k, hk => by
    have h : (allB p n && p n) = true := h
    rw [Bool.and_eq_true] at h
    by_cases e : k = n
    · subst e; exact h.2
    · exact allB_t h.1 k (by omega)
theorem allB_f {p : Nat → Bool} {k : Nat} (hp : p k = false) : ∀ {n : Nat}, k < n → allB p n = false
  | 0, hk => absurd hk (by omega)
  | n + 1, hk => by
    show (allB p n && p n) = false
    by_cases e : k = n
    · subst e; rw [hp, Bool.and_false]
    · rw [allB_f hp (n := n) (by omega), Bool.false_and]
def canL (S : Sx) (nr : Nat) (s : Nat) : Bool := decide (sa S 535 (0 + s) = 0 ∧ mko S 535 (nI s) nr ≠ 0)
def ilp1 (S : Sx) (nr : Nat) (x : Int32) (s : Nat) : Bool := !(bit x (ix s)) || canL S nr s
def ilp2 (S : Sx) (nr : Nat) (ow : Nat → Nat) (m : Nat) (wv : Nat → Nat × Nat) (lr : Nat → Nat) (x : Int32) (k : Nat) : Bool := decide (mpi S nr ow m wv (lr k) (bit x (nI (ow (lr k)))) = sa S (431 + k) 1)
def ilB (S : Sx) (ns nr : Nat) (ow : Nat → Nat) (m : Nat) (wv : Nat → Nat × Nat) (ln : Nat) (lr : Nat → Nat) (x : Int32) : Bool := allB (ilp1 S nr x) ns && allB (ilp2 S nr ow m wv lr x) ln
theorem r_X11_powerIf {g : Gp} {S : Sx} {r : Nat} {b : Bool} {ns nr np m : Nat} {ow : Nat → Nat} {wv : Nat → Nat × Nat} (hH : MH S ns nr np ow) (hW : LawW m wv) (hM : LawM S m wv) (hr : r < nr) : RW g mX11_powerIf 5 [.ref 59, .int (nI r), .int (bI b)] S (some (.int (mpi S nr ow m wv r b))) S := by
  refine RW_ofQ ⟨rfl, rfl⟩ (Nat.le_of_ble_eq_true rfl) (fun T sz Q hQ => ?_)
  have hH' := hH
  obtain ⟨e0, e1, e2, l0, l1, l2, ho⟩ := hH'
  obtain ⟨o1, o2⟩ := ho r hr
  refine J_iload_n (pc := 0) dX11_powerIf_0 rfl ?_
  refine J_mid1 9 (bI b) ?_ (fun hj1 => ?_)
  · refine J_istore_n (pc := 9) dX11_powerIf_9 (by decide) rfl ?_
    refine J_aload_n (pc := 10) dX11_powerIf_10 rfl ?_
    refine J_getr (pc := 11) dX11_powerIf_11 kc11 fl_X11_73 rfl ?_
    refine J_iload_n (pc := 14) dX11_powerIf_14 rfl ?_
    refine J_csr (pc := 15) (N := mX11_isKept) dX11_powerIf_15 ml_X11_267 cf_X11_isKept cs_X11_isKept (r_X11_isKept row535 (by omega)) rfl rfl (Nat.le_of_ble_eq_true rfl) (by decide) ?_
    refine J_ifp_eq (pc := 18) (tgt := 71) dX11_powerIf_18 (by decide) (fun c18 => ?_) (fun c18 => ?_)
    · refine J_iconst (pc := 71) (v := 0) dX11_powerIf_71 (by decide) ?_
      exact J_iret (pc := 72) rfl rfl rfl dX11_powerIf_72 (rqw hQ (by unfold mpi; first | exact (if_pos c18).symm | exact (if_neg c18).symm) rfl)
    · refine J_aload_n (pc := 21) dX11_powerIf_21 rfl ?_
      refine J_aload_n (pc := 22) dX11_powerIf_22 rfl ?_
      refine J_getr (pc := 23) dX11_powerIf_23 kc11 fl_X11_73 rfl ?_
      refine J_iload_n (pc := 26) dX11_powerIf_26 rfl ?_
      refine J_aload_n (pc := 27) dX11_powerIf_27 rfl ?_
      refine J_getr (pc := 28) dX11_powerIf_28 kc11 fl_X11_73 rfl ?_
      refine J_bipush (pc := 31) (v := 16) dX11_powerIf_31 (by decide) ?_
      refine J_iload_n (pc := 33) dX11_powerIf_33 rfl ?_
      refine J_iadd (pc := 34) dX11_powerIf_34 ?_
      refine J_il (pc := 35) dX11_powerIf_35 (by first | rfl | assumption) (by first | exact nI_add 16 _ | (rw [ix_nI]; exact nI_add 16 _)) ⟨by first | decide | omega, by decide⟩ ?_
      refine J_iconst (pc := 36) (v := 1) dX11_powerIf_36 (by decide) ?_
      refine J_iload_n (pc := 37) dX11_powerIf_37 rfl ?_
      refine J_iadd (pc := 38) dX11_powerIf_38 ?_
      refine J_idiv (pc := 39) dX11_powerIf_39 (by cases b <;> decide) ?_
      refine J_aload_n (pc := 40) dX11_powerIf_40 rfl ?_
      refine J_getr (pc := 41) dX11_powerIf_41 kc11 fl_X11_73 rfl ?_
      refine J_bipush (pc := 44) (v := 8) dX11_powerIf_44 (by decide) ?_
      refine J_aload_n (pc := 46) dX11_powerIf_46 rfl ?_
      refine J_getr (pc := 47) dX11_powerIf_47 kc11 fl_X11_43 rfl ?_
      refine J_iload_n (pc := 50) dX11_powerIf_50 rfl ?_
      refine J_ar1 (pc := 51) dX11_powerIf_51 rfl (by first | with_reducible rfl | assumption | exact ix_nI _ | rfl) ⟨by first | decide | omega, by decide⟩ ?_
      refine J_iconst (pc := 52) (v := 0) dX11_powerIf_52 (by decide) ?_
      refine J_il (pc := 53) dX11_powerIf_53 (lay_relic (by omega)) (rfl : (0 : Int32) = nI 0) ⟨by first | decide | omega, by decide⟩ ?_
      refine J_t1 (y := nI (ow r)) o1 ?_
      refine J_iadd (pc := 54) dX11_powerIf_54 ?_
      refine J_il (pc := 55) dX11_powerIf_55 (by first | rfl | assumption) (by first | exact nI_add 8 _ | (rw [ix_nI]; exact nI_add 8 _)) ⟨by first | decide | omega, by decide⟩ ?_
      refine J_iload_n (pc := 56) dX11_powerIf_56 rfl ?_
      refine J_iadd (pc := 57) dX11_powerIf_57 ?_
      refine J_aload_n (pc := 58) dX11_powerIf_58 rfl ?_
      refine J_getr (pc := 59) dX11_powerIf_59 kc11 fl_X11_73 rfl ?_
      refine J_bipush (pc := 62) (v := 44) dX11_powerIf_62 (by decide) ?_
      refine J_il (pc := 64) dX11_powerIf_64 (by first | rfl | assumption) (rfl : (44 : Int32) = nI 44) ⟨by first | decide | omega, by decide⟩ ?_
      refine J_cvw (pc := 65) (N := mX11_powerOf) dX11_powerIf_65 ml_X11_285 cf_X11_powerOf cv_X11_powerOf (r_X11_powerOf row535 hH hW hM hr) rfl rfl (Nat.le_of_ble_eq_true rfl) (by decide) (rv_of (ci := 11) rfl rfl rfl) ?_
      intro T
      refine J_goto (pc := 68) (tgt := 72) dX11_powerIf_68 (by decide) ?_
      exact J_iret (pc := 72) rfl rfl rfl dX11_powerIf_72 (rqw hQ (by unfold mpi; first | exact (if_pos c18).symm | exact (if_neg c18).symm) rfl)
  · refine J_if_eq (pc := 1) (tgt := 8) dX11_powerIf_1 (by decide) (fun c1 => ?_) (fun c1 => ?_)
    · refine J_iconst (pc := 8) (v := 0) dX11_powerIf_8 (by decide) ?_
      exact hj1 _ (by first | (rw [bI_0.mp c1]; rfl) | (rw [bI_1.mp c1]; rfl))
    · refine J_iconst (pc := 4) (v := 1) dX11_powerIf_4 (by decide) ?_
      refine J_goto (pc := 5) (tgt := 9) dX11_powerIf_5 (by decide) ?_
      exact hj1 _ (by first | (rw [bI_0.mp c1]; rfl) | (rw [bI_1.mp c1]; rfl))
theorem r_X11_isTold {g : Gp} {S : Sx} {x : Int32} {nr ln : Nat} {lr : Nat → Nat} (hL : LN S nr ln lr) : RT g mX11_isTold 0 [.ref 59, .int x] S (some (.int (bI (decide (allB (fun k => decide (sa S (431 + k) 0 ≠ x)) ln = false))))) S := by
  refine RT_ofQ ⟨rfl, rfl⟩ (Nat.le_of_ble_eq_true rfl) (fun sz Q hQ => ?_)
  obtain ⟨k0, k1, k2⟩ := hL
  refine J_iconst (pc := 0) (v := 0) dX11_isTold_0 (by decide) ?_
  refine J_istore_n (pc := 1) dX11_isTold_1 (by decide) rfl ?_
  show J g mX11_isTold 0 [] 2 [some (.ref 59), some (.int x), some (.int 0)] [] (hs S) sz 0 0 Q
  refine dn_ind (n := ln) (P := fun i => (∀ j, j < i → sa S (431 + j) 0 ≠ x) → J g mX11_isTold 0 [] 2 [some (.ref 59), some (.int x), some (.int (ix i))] [] (hs S) sz 0 0 Q) ?_ (fun i hi ih => ?_) 0 (Nat.zero_le _) (fun j hj => absurd hj (by omega))
  · intro hno
    refine J_iload_n (pc := 2) dX11_isTold_2 rfl ?_
    refine J_aload_n (pc := 3) dX11_isTold_3 rfl ?_
    refine J_geti (pc := 4) dX11_isTold_4 kc11 fl_X11_203 rfl ?_
    refine J_icmp_ge (pc := 7) (tgt := 30) dX11_isTold_7 (by decide) (fun c7 => ?_) (fun c7 => absurd (ix_ge k0) c7)
    refine J_iconst (pc := 30) (v := 0) dX11_isTold_30 (by decide) ?_
    exact J_iret rfl rfl rfl dX11_isTold_31 (rq hQ (bI_f (fun q => by
      have e : allB (fun k => decide (sa S (431 + k) 0 ≠ x)) ln = true := by
        have gen : ∀ n, n ≤ ln → allB (fun k => decide (sa S (431 + k) 0 ≠ x)) n = true := by
          intro n hn
          induction n with
          | zero => rfl
          | succ n ih => show (_ && _) = true; rw [ih (by omega)]; exact decide_eq_true (hno n (by omega))
        exact gen ln (Nat.le_refl _)
      rw [e] at q; cases q)).symm rfl)
  · intro hno
    refine J_iload_n (pc := 2) dX11_isTold_2 rfl ?_
    refine J_aload_n (pc := 3) dX11_isTold_3 rfl ?_
    refine J_geti (pc := 4) dX11_isTold_4 kc11 fl_X11_203 rfl ?_
    refine J_icmp_ge (pc := 7) (tgt := 30) dX11_isTold_7 (by decide) (fun c7 => absurd c7 (ix_lt k0 hi (by omega))) (fun c7 => ?_)
    refine J_aload_n (pc := 10) dX11_isTold_10 rfl ?_
    refine J_getr (pc := 11) dX11_isTold_11 kc11 fl_X11_58 rfl ?_
    refine J_iload_n (pc := 14) dX11_isTold_14 rfl ?_
    refine J_ar1 (pc := 15) dX11_isTold_15 rfl (by first | with_reducible rfl | assumption | exact ix_nI _ | rfl) ⟨by first | decide | omega, by decide⟩ ?_
    refine J_iconst (pc := 16) (v := 0) dX11_isTold_16 (by decide) ?_
    refine J_il (pc := 17) dX11_isTold_17 (lay_line (by omega)) (rfl : (0 : Int32) = nI 0) ⟨by first | decide | omega, by decide⟩ ?_
    refine J_iload_n (pc := 18) dX11_isTold_18 rfl ?_
    refine J_icmp_ne (pc := 19) (tgt := 24) dX11_isTold_19 (by decide) (fun c19 => ?_) (fun c19 => ?_)
    · refine J_iinc (pc := 24) (v := 1) dX11_isTold_24 rfl (by decide) rfl ?_
      refine J_goto (pc := 27) (tgt := 2) dX11_isTold_27 (by decide) ?_
      exact ih (fun j hj => by
        by_cases q : j = i
        · subst q; exact c19
        · exact hno j (by omega))
    · refine J_iconst (pc := 22) (v := 1) dX11_isTold_22 (by decide) ?_
      exact J_iret (pc := 23) rfl rfl rfl dX11_isTold_23 (rq hQ (bI_t (allB_f (k := i) (decide_eq_false (fun q => q c19)) hi)).symm rfl)
theorem r_X11_isLapsed {g : Gp} {S : Sx} {x : Int32} {ns nr np m ln : Nat} {ow : Nat → Nat} {wv : Nat → Nat × Nat} {lr : Nat → Nat} (hH : MH S ns nr np ow) (hW : LawW m wv) (hM : LawM S m wv) (hL : LN S nr ln lr) : RW g mX11_isLapsed 6 [.ref 59, .int x] S (some (.int (bI (decide (ilB S ns nr ow m wv ln lr x = true))))) S := by
  refine RW_ofQ ⟨rfl, rfl⟩ (Nat.le_of_ble_eq_true rfl) (fun T sz Q hQ => ?_)
  have hH' := hH
  obtain ⟨e0, e1, e2, l0, l1, l2, ho⟩ := hH'
  obtain ⟨k0, k1, k2⟩ := hL
  refine J_iconst (pc := 0) (v := 0) dX11_isLapsed_0 (by decide) ?_
  refine J_istore_n (pc := 1) dX11_isLapsed_1 (by decide) rfl ?_
  show J g mX11_isLapsed 6 [] 2 [some (.ref 59), some (.int x), some (.int 0)] [] (hs (w1 S T)) sz 0 0 Q
  refine dn_ind (n := ns) (P := fun i => allB (ilp1 S nr x) i = true → ∀ T, J g mX11_isLapsed 6 [] 2 [some (.ref 59), some (.int x), some (.int (ix i))] [] (hs (w1 S T)) sz 0 0 Q) ?_ (fun i hi ih => ?_) 0 (Nat.zero_le _) rfl T
  · intro h1 T
    refine J_iload_n (pc := 2) dX11_isLapsed_2 rfl ?_
    refine J_aload_n (pc := 3) dX11_isLapsed_3 rfl ?_
    refine J_getr (pc := 4) dX11_isLapsed_4 kc11 fl_X11_23 rfl ?_
    refine J_iconst (pc := 7) (v := 0) dX11_isLapsed_7 (by decide) ?_
    refine J_il (pc := 8) dX11_isLapsed_8 (by first | rfl | assumption) (rfl : (0 : Int32) = nI 0) ⟨by first | decide | omega, by decide⟩ ?_
    refine J_icmp_ge (pc := 9) (tgt := 40) dX11_isLapsed_9 (by decide) (fun c9 => ?_) (fun c9 => absurd (ix_ge e0) c9)
    refine J_iconst (pc := 40) (v := 0) dX11_isLapsed_40 (by decide) ?_
    refine J_istore_n (pc := 41) dX11_isLapsed_41 (by decide) rfl ?_
    show J g mX11_isLapsed 6 [] 42 [some (.ref 59), some (.int x), some (.int 0)] [] (hs (w1 S T)) sz 0 0 Q
    refine dn_ind (n := ln) (P := fun i => allB (ilp2 S nr ow m wv lr x) i = true → ∀ T, J g mX11_isLapsed 6 [] 42 [some (.ref 59), some (.int x), some (.int (ix i))] [] (hs (w1 S T)) sz 0 0 Q) ?_ (fun i hi ih => ?_) 0 (Nat.zero_le _) rfl T
    · intro h2 T
      refine J_iload_n (pc := 42) dX11_isLapsed_42 rfl ?_
      refine J_aload_n (pc := 43) dX11_isLapsed_43 rfl ?_
      refine J_geti (pc := 44) dX11_isLapsed_44 kc11 fl_X11_203 rfl ?_
      refine J_icmp_ge (pc := 47) (tgt := 100) dX11_isLapsed_47 (by decide) (fun c47 => ?_) (fun c47 => absurd (ix_ge k0) c47)
      refine J_iconst (pc := 100) (v := 1) dX11_isLapsed_100 (by decide) ?_
      exact J_iret (pc := 101) rfl rfl rfl dX11_isLapsed_101 (rqw hQ (bI_t (by unfold ilB; rw [h1, h2]; rfl)).symm rfl)
    · intro h2 T
      obtain ⟨r1, r2⟩ := k2 i hi
      obtain ⟨o1, o2⟩ := ho (lr i) r2
      refine J_iload_n (pc := 42) dX11_isLapsed_42 rfl ?_
      refine J_aload_n (pc := 43) dX11_isLapsed_43 rfl ?_
      refine J_geti (pc := 44) dX11_isLapsed_44 kc11 fl_X11_203 rfl ?_
      refine J_icmp_ge (pc := 47) (tgt := 100) dX11_isLapsed_47 (by decide) (fun c47 => absurd c47 (ix_lt k0 hi (by omega))) (fun c47 => ?_)
      refine J_aload_n (pc := 50) dX11_isLapsed_50 rfl ?_
      refine J_aload_n (pc := 51) dX11_isLapsed_51 rfl ?_
      refine J_getr (pc := 52) dX11_isLapsed_52 kc11 fl_X11_58 rfl ?_
      refine J_iload_n (pc := 55) dX11_isLapsed_55 rfl ?_
      refine J_ar1 (pc := 56) dX11_isLapsed_56 rfl (by first | with_reducible rfl | assumption | exact ix_nI _ | rfl) ⟨by first | decide | omega, by decide⟩ ?_
      refine J_iconst (pc := 57) (v := 0) dX11_isLapsed_57 (by decide) ?_
      refine J_il (pc := 58) dX11_isLapsed_58 (lay_line (by omega)) (rfl : (0 : Int32) = nI 0) ⟨by first | decide | omega, by decide⟩ ?_
      refine J_t1 (y := nI (lr i)) r1 ?_
      refine J_iload_n (pc := 59) dX11_isLapsed_59 rfl ?_
      refine J_aload_n (pc := 60) dX11_isLapsed_60 rfl ?_
      refine J_getr (pc := 61) dX11_isLapsed_61 kc11 fl_X11_43 rfl ?_
      refine J_aload_n (pc := 64) dX11_isLapsed_64 rfl ?_
      refine J_getr (pc := 65) dX11_isLapsed_65 kc11 fl_X11_58 rfl ?_
      refine J_iload_n (pc := 68) dX11_isLapsed_68 rfl ?_
      refine J_ar1 (pc := 69) dX11_isLapsed_69 rfl (by first | with_reducible rfl | assumption | exact ix_nI _ | rfl) ⟨by first | decide | omega, by decide⟩ ?_
      refine J_iconst (pc := 70) (v := 0) dX11_isLapsed_70 (by decide) ?_
      refine J_il (pc := 71) dX11_isLapsed_71 (lay_line (by omega)) (rfl : (0 : Int32) = nI 0) ⟨by first | decide | omega, by decide⟩ ?_
      refine J_t1 (y := nI (lr i)) r1 ?_
      refine J_ar1 (pc := 72) dX11_isLapsed_72 rfl (by first | with_reducible rfl | assumption | exact ix_nI _ | rfl) ⟨by first | decide | omega, by decide⟩ ?_
      refine J_iconst (pc := 73) (v := 0) dX11_isLapsed_73 (by decide) ?_
      refine J_il (pc := 74) dX11_isLapsed_74 (lay_relic (by omega)) (rfl : (0 : Int32) = nI 0) ⟨by first | decide | omega, by decide⟩ ?_
      refine J_t1 (y := nI (ow (lr i))) o1 ?_
      refine J_csr (pc := 75) (N := mX11_has) dX11_isLapsed_75 ml_X11_263 cf_X11_has cs_X11_has r_X11_has rfl rfl (Nat.le_of_ble_eq_true rfl) (by decide) ?_
      refine J_cvw (pc := 78) (N := mX11_powerIf) dX11_isLapsed_78 ml_X11_355 cf_X11_powerIf cv_X11_powerIf (r_X11_powerIf (b := bit x (nI (ow (lr i)))) hH hW hM r2) rfl rfl (Nat.le_of_ble_eq_true rfl) (by decide) (rv_of (ci := 11) rfl rfl rfl) ?_
      intro T
      refine J_aload_n (pc := 81) dX11_isLapsed_81 rfl ?_
      refine J_getr (pc := 82) dX11_isLapsed_82 kc11 fl_X11_58 rfl ?_
      refine J_iload_n (pc := 85) dX11_isLapsed_85 rfl ?_
      refine J_ar1 (pc := 86) dX11_isLapsed_86 rfl (by first | with_reducible rfl | assumption | exact ix_nI _ | rfl) ⟨by first | decide | omega, by decide⟩ ?_
      refine J_iconst (pc := 87) (v := 1) dX11_isLapsed_87 (by decide) ?_
      refine J_il (pc := 88) dX11_isLapsed_88 (lay_line (by omega)) (rfl : (1 : Int32) = nI 1) ⟨by first | decide | omega, by decide⟩ ?_
      refine J_icmp_eq (pc := 89) (tgt := 94) dX11_isLapsed_89 (by decide) (fun c89 => ?_) (fun c89 => ?_)
      · refine J_iinc (pc := 94) (v := 1) dX11_isLapsed_94 rfl (by decide) rfl ?_
        refine J_goto (pc := 97) (tgt := 42) dX11_isLapsed_97 (by decide) ?_
        exact ih (by show (_ && _) = true; rw [h2, Bool.true_and]; exact decide_eq_true c89) T
      · refine J_iconst (pc := 92) (v := 0) dX11_isLapsed_92 (by decide) ?_
        exact J_iret (pc := 93) rfl rfl rfl dX11_isLapsed_93 (rqw hQ (bI_f (fun q => by unfold ilB at q; rw [Bool.and_eq_true] at q; exact c89 (of_decide_eq_true (allB_t q.2 i hi)))).symm rfl)
  · intro h1 T
    refine J_iload_n (pc := 2) dX11_isLapsed_2 rfl ?_
    refine J_aload_n (pc := 3) dX11_isLapsed_3 rfl ?_
    refine J_getr (pc := 4) dX11_isLapsed_4 kc11 fl_X11_23 rfl ?_
    refine J_iconst (pc := 7) (v := 0) dX11_isLapsed_7 (by decide) ?_
    refine J_il (pc := 8) dX11_isLapsed_8 (by first | rfl | assumption) (rfl : (0 : Int32) = nI 0) ⟨by first | decide | omega, by decide⟩ ?_
    refine J_icmp_ge (pc := 9) (tgt := 40) dX11_isLapsed_9 (by decide) (fun c9 => absurd c9 (ix_lt e0 hi (by omega))) (fun c9 => ?_)
    refine J_iload_n (pc := 12) dX11_isLapsed_12 rfl ?_
    refine J_iload_n (pc := 13) dX11_isLapsed_13 rfl ?_
    refine J_csr (pc := 14) (N := mX11_has) dX11_isLapsed_14 ml_X11_263 cf_X11_has cs_X11_has r_X11_has rfl rfl (Nat.le_of_ble_eq_true rfl) (by decide) ?_
    refine J_ifp_eq (pc := 17) (tgt := 34) dX11_isLapsed_17 (by decide) (fun c17 => ?_) (fun c17 => ?_)
    · refine J_iinc (pc := 34) (v := 1) dX11_isLapsed_34 rfl (by decide) rfl ?_
      refine J_goto (pc := 37) (tgt := 2) dX11_isLapsed_37 (by decide) ?_
      exact ih (by show (_ && (!(bit x (ix i)) || canL S nr i)) = true; rw [h1, Bool.true_and]; first | (have z1 : bit x (ix i) = false := decide_eq_false c17; rw [z1]; rfl) | (have z1 : canL S nr i = true := decide_eq_true c29; rw [z1]; exact Bool.or_true _)) T
    · refine J_aload_n (pc := 20) dX11_isLapsed_20 rfl ?_
      refine J_aload_n (pc := 21) dX11_isLapsed_21 rfl ?_
      refine J_getr (pc := 22) dX11_isLapsed_22 kc11 fl_X11_73 rfl ?_
      refine J_iload_n (pc := 25) dX11_isLapsed_25 rfl ?_
      refine J_t1 (ix_nI i) ?_
      refine J_cvr (pc := 26) (N := mX11_canLapse) dX11_isLapsed_26 ml_X11_296 cf_X11_canLapse cv_X11_canLapse (r_X11_canLapse (S := w1 S T) row535 hH hi) rfl rfl (Nat.le_of_ble_eq_true rfl) (by decide) (rv_of (ci := 11) rfl rfl rfl) ?_
      refine J_ifp_ne (pc := 29) (tgt := 34) dX11_isLapsed_29 (by decide) (fun c29 => ?_) (fun c29 => ?_)
      · refine J_iinc (pc := 34) (v := 1) dX11_isLapsed_34 rfl (by decide) rfl ?_
        refine J_goto (pc := 37) (tgt := 2) dX11_isLapsed_37 (by decide) ?_
        exact ih (by show (_ && (!(bit x (ix i)) || canL S nr i)) = true; rw [h1, Bool.true_and]; first | (have z1 : bit x (ix i) = false := decide_eq_false c17; rw [z1]; rfl) | (have z1 : canL S nr i = true := decide_eq_true c29; rw [z1]; exact Bool.or_true _)) T
      · refine J_iconst (pc := 32) (v := 0) dX11_isLapsed_32 (by decide) ?_
        exact J_iret (pc := 33) rfl rfl rfl dX11_isLapsed_33 (rqw hQ (bI_f (fun q => by unfold ilB at q; rw [Bool.and_eq_true] at q; have z := allB_t q.1 i hi; have z1 : bit x (ix i) = true := decide_eq_true c17; have z2 : canL S nr i = false := decide_eq_false c29; rw [show ilp1 S nr x i = (!(bit x (ix i)) || canL S nr i) from rfl, z1, z2] at z; cases z)).symm rfl)
theorem sh1 {n : Nat} (h : n ≤ 10) : (1 : Int32) <<< (nI n &&& 31) = nI (2 ^ n) := by
  have : ∀ n, n ≤ 10 → (1 : Int32) <<< (nI n &&& 31) = nI (2 ^ n) := by decide
  exact this n h
theorem p2_le {n : Nat} (h : n ≤ 8) : 2 ^ n ≤ 256 := by
  have : ∀ n, n ≤ 8 → 2 ^ n ≤ 256 := by decide
  exact this n h
/-- how many sets, the first, what all have -/
def lpT (p : Nat → Bool) (a0 : Int32) : Nat → Int32 × Int32 × Int32
  | 0 => (0, -1, a0)
  | i + 1 => if p i = true then ((lpT p a0 i).1 + 1, (if (lpT p a0 i).1 = 0 then ix i else (lpT p a0 i).2.1), (lpT p a0 i).2.2 &&& ix i) else lpT p a0 i
def ctT (p q : Nat → Bool) : Nat → Int32 × Int32
  | 0 => (0, 0)
  | i + 1 => if p i = true then (if q i = true then ((ctT p q i).1 + 1, (ctT p q i).2) else ((ctT p q i).1, (ctT p q i).2 + 1)) else ctT p q i
theorem r_X11_lapsed_er {g : Gp} {S : Sx} {x : Int32} (hv : ¬ (0 ≤ x ∧ x ≤ 2)) : RT g mX11_lapsed 2 [.ref 59, .int x] S (some (.int 0)) (er S 1 1) := by
  refine RT_ofQ ⟨rfl, rfl⟩ (Nat.le_of_ble_eq_true rfl) (fun sz Q hQ => ?_)
  refine J_aload_n (pc := 0) dX11_lapsed_0 rfl ?_
  refine J_iconst (pc := 1) (v := 0) dX11_lapsed_1 (by decide) ?_
  refine J_puti (pc := 2) dX11_lapsed_2 kc11 fl_X11_103 rfl ⟨rfl, rfl⟩ ?_
  refine J_aload_n (pc := 5) dX11_lapsed_5 rfl ?_
  refine J_iload_n (pc := 6) dX11_lapsed_6 rfl ?_
  refine J_iconst (pc := 7) (v := 0) dX11_lapsed_7 (by decide) ?_
  refine J_iconst (pc := 8) (v := 2) dX11_lapsed_8 (by decide) ?_
  refine J_csr (pc := 9) (N := mX11_in) dX11_lapsed_9 ml_X11_137 cf_X11_in cs_X11_in r_X11_in rfl rfl (Nat.le_of_ble_eq_true rfl) (by decide) ?_
  refine J_ifp_ne (pc := 12) (tgt := 19) dX11_lapsed_12 (by decide) (fun c12 => absurd c12 hv) (fun c12 => ?_)
  refine J_iconst (pc := 15) (v := 1) dX11_lapsed_15 (by decide) ?_
  refine J_goto (pc := 16) (tgt := 20) dX11_lapsed_16 (by decide) ?_
  refine J_iconst (pc := 20) (v := 1) dX11_lapsed_20 (by decide) ?_
  refine J_iconst (pc := 21) (v := 1) dX11_lapsed_21 (by decide) ?_
  refine J_cvr (pc := 22) (N := mX11_bad) dX11_lapsed_22 ml_X11_183 cf_X11_bad cv_X11_bad (r_X11_bad_t (k := 1) rfl (by decide) (by decide) rfl) rfl rfl (Nat.le_of_ble_eq_true rfl) (by decide) (rv_of (ci := 11) rfl rfl rfl) ?_
  refine J_if_eq (pc := 25) (tgt := 30) dX11_lapsed_25 (by decide) (fun c25 => absurd c25 (by decide)) (fun c25 => ?_)
  refine J_iconst (pc := 28) (v := 0) dX11_lapsed_28 (by decide) ?_
  exact J_iret (pc := 29) rfl rfl rfl dX11_lapsed_29 (rq hQ (by first | rfl | simp [bI, *] | simp_all [bI]) rfl)
theorem r_X11_lapsed {g : Gp} {S : Sx} {x : Int32} {ns nr np m ln : Nat} {ow : Nat → Nat} {wv : Nat → Nat × Nat} {lr : Nat → Nat} (hH : MH S ns nr np ow) (hW : LawW m wv) (hM : LawM S m wv) (hL : LN S nr ln lr) (hv : 0 ≤ x ∧ x ≤ 2) : RW g mX11_lapsed 8 [.ref 59, .int x] S (some (.int (if x = 0 then (lpT (fun i => ilB S ns nr ow m wv ln lr (ix i)) (1 <<< (nI ns &&& 31) - 1) (2 ^ ns)).1 else if x = 1 then (lpT (fun i => ilB S ns nr ow m wv ln lr (ix i)) (1 <<< (nI ns &&& 31) - 1) (2 ^ ns)).2.1 else if (lpT (fun i => ilB S ns nr ow m wv ln lr (ix i)) (1 <<< (nI ns &&& 31) - 1) (2 ^ ns)).1 = 0 then 0 else (lpT (fun i => ilB S ns nr ow m wv ln lr (ix i)) (1 <<< (nI ns &&& 31) - 1) (2 ^ ns)).2.2))) (S0 S) := by
  refine RW_ofQ ⟨rfl, rfl⟩ (Nat.le_of_ble_eq_true rfl) (fun T sz Q hQ => ?_)
  have hH' := hH
  obtain ⟨e0, e1, e2, l0, l1, l2, ho⟩ := hH'
  refine J_aload_n (pc := 0) dX11_lapsed_0 rfl ?_
  refine J_iconst (pc := 1) (v := 0) dX11_lapsed_1 (by decide) ?_
  refine J_putiw (pc := 2) dX11_lapsed_2 kc11 fl_X11_103 rfl ⟨rfl, rfl⟩ ?_
  refine J_aload_n (pc := 5) dX11_lapsed_5 rfl ?_
  refine J_iload_n (pc := 6) dX11_lapsed_6 rfl ?_
  refine J_iconst (pc := 7) (v := 0) dX11_lapsed_7 (by decide) ?_
  refine J_iconst (pc := 8) (v := 2) dX11_lapsed_8 (by decide) ?_
  refine J_csr (pc := 9) (N := mX11_in) dX11_lapsed_9 ml_X11_137 cf_X11_in cs_X11_in r_X11_in rfl rfl (Nat.le_of_ble_eq_true rfl) (by decide) ?_
  refine J_ifp_ne (pc := 12) (tgt := 19) dX11_lapsed_12 (by decide) (fun c12 => ?_) (fun c12 => absurd hv c12)
  refine J_iconst (pc := 19) (v := 0) dX11_lapsed_19 (by decide) ?_
  refine J_iconst (pc := 20) (v := 1) dX11_lapsed_20 (by decide) ?_
  refine J_iconst (pc := 21) (v := 1) dX11_lapsed_21 (by decide) ?_
  refine J_cvr (pc := 22) (N := mX11_bad) dX11_lapsed_22 ml_X11_183 cf_X11_bad cv_X11_bad (r_X11_bad_f rfl) rfl rfl (Nat.le_of_ble_eq_true rfl) (by decide) (rv_of (ci := 11) rfl rfl rfl) ?_
  refine J_if_eq (pc := 25) (tgt := 30) dX11_lapsed_25 (by decide) (fun c25 => ?_) (fun c25 => absurd rfl c25)
  refine J_iconst (pc := 30) (v := 0) dX11_lapsed_30 (by decide) ?_
  refine J_istore_n (pc := 31) dX11_lapsed_31 (by decide) rfl ?_
  refine J_iconst (pc := 32) (v := -1) dX11_lapsed_32 (by decide) ?_
  refine J_istore_n (pc := 33) dX11_lapsed_33 (by decide) rfl ?_
  refine J_iconst (pc := 34) (v := 1) dX11_lapsed_34 (by decide) ?_
  refine J_aload_n (pc := 35) dX11_lapsed_35 rfl ?_
  refine J_getr (pc := 36) dX11_lapsed_36 kc11 fl_X11_23 rfl ?_
  refine J_iconst (pc := 39) (v := 0) dX11_lapsed_39 (by decide) ?_
  refine J_il (pc := 40) dX11_lapsed_40 (by first | rfl | assumption) (rfl : (0 : Int32) = nI 0) ⟨by first | decide | omega, by decide⟩ ?_
  refine J_t1 e0 ?_
  refine J_ishl (pc := 41) dX11_lapsed_41 ?_
  refine J_iconst (pc := 42) (v := 1) dX11_lapsed_42 (by decide) ?_
  refine J_isub (pc := 43) dX11_lapsed_43 ?_
  refine J_istore (pc := 44) dX11_lapsed_44 (by decide) rfl ?_
  refine J_iconst (pc := 46) (v := 0) dX11_lapsed_46 (by decide) ?_
  refine J_istore (pc := 47) dX11_lapsed_47 (by decide) rfl ?_
  show J g mX11_lapsed 8 [] 49 [some (.ref 59), some (.int x), some (.int 0), some (.int (-1)), some (.int (1 <<< (nI ns &&& 31) - 1)), some (.int 0)] [] (hs (w1 (S0 S) T)) sz 0 0 Q
  have p8 := p2_le l0
  obtain ⟨pp, hpp⟩ : ∃ q, q = (fun i => ilB S ns nr ow m wv ln lr (ix i)) := ⟨_, rfl⟩
  rw [← hpp] at hQ
  refine dn_ind (n := 2 ^ ns) (P := fun i => ∀ T, J g mX11_lapsed 8 [] 49 [some (.ref 59), some (.int x), some (.int (lpT pp (1 <<< (nI ns &&& 31) - 1) i).1), some (.int (lpT pp (1 <<< (nI ns &&& 31) - 1) i).2.1), some (.int (lpT pp (1 <<< (nI ns &&& 31) - 1) i).2.2), some (.int (ix i))] [] (hs (w1 (S0 S) T)) sz 0 0 Q) ?_ (fun i hi ih => ?_) 0 (Nat.zero_le _) _
  · intro T
    refine J_iload (pc := 49) dX11_lapsed_49 rfl ?_
    refine J_iconst (pc := 51) (v := 1) dX11_lapsed_51 (by decide) ?_
    refine J_aload_n (pc := 52) dX11_lapsed_52 rfl ?_
    refine J_getr (pc := 53) dX11_lapsed_53 kc11 fl_X11_23 rfl ?_
    refine J_iconst (pc := 56) (v := 0) dX11_lapsed_56 (by decide) ?_
    refine J_il (pc := 57) dX11_lapsed_57 (by first | rfl | assumption) (rfl : (0 : Int32) = nI 0) ⟨by first | decide | omega, by decide⟩ ?_
    refine J_t1 e0 ?_
    refine J_ishl (pc := 58) dX11_lapsed_58 ?_
    refine J_t1 (sh1 (by omega)) ?_
    refine J_icmp_ge (pc := 59) (tgt := 101) dX11_lapsed_59 (by decide) (fun c59 => ?_) (fun c59 => absurd (ix_ge rfl) c59)
    refine J_iload_n (pc := 101) dX11_lapsed_101 rfl ?_
    refine J_if_ne (pc := 102) (tgt := 109) dX11_lapsed_102 (by decide) (fun c102 => ?_) (fun c102 => ?_)
    · refine J_iload_n (pc := 109) dX11_lapsed_109 rfl ?_
      refine J_iconst (pc := 110) (v := 1) dX11_lapsed_110 (by decide) ?_
      refine J_icmp_ne (pc := 111) (tgt := 118) dX11_lapsed_111 (by decide) (fun c111 => ?_) (fun c111 => ?_)
      · refine J_iload_n (pc := 118) dX11_lapsed_118 rfl ?_
        refine J_if_ne (pc := 119) (tgt := 126) dX11_lapsed_119 (by decide) (fun c119 => ?_) (fun c119 => ?_)
        · refine J_iload (pc := 126) dX11_lapsed_126 rfl ?_
          exact J_iret (pc := 128) rfl rfl rfl dX11_lapsed_128 (rqw hQ (by first | exact (if_pos c102).symm | (rw [if_neg c102]; first | exact (if_pos c111).symm | (rw [if_neg c111]; first | exact (if_pos c119).symm | exact (if_neg c119).symm))) rfl)
        · refine J_iconst (pc := 122) (v := 0) dX11_lapsed_122 (by decide) ?_
          refine J_goto (pc := 123) (tgt := 128) dX11_lapsed_123 (by decide) ?_
          exact J_iret (pc := 128) rfl rfl rfl dX11_lapsed_128 (rqw hQ (by first | exact (if_pos c102).symm | (rw [if_neg c102]; first | exact (if_pos c111).symm | (rw [if_neg c111]; first | exact (if_pos c119).symm | exact (if_neg c119).symm))) rfl)
      · refine J_iload_n (pc := 114) dX11_lapsed_114 rfl ?_
        refine J_goto (pc := 115) (tgt := 128) dX11_lapsed_115 (by decide) ?_
        exact J_iret (pc := 128) rfl rfl rfl dX11_lapsed_128 (rqw hQ (by first | exact (if_pos c102).symm | (rw [if_neg c102]; first | exact (if_pos c111).symm | (rw [if_neg c111]; first | exact (if_pos c119).symm | exact (if_neg c119).symm))) rfl)
    · refine J_iload_n (pc := 105) dX11_lapsed_105 rfl ?_
      refine J_goto (pc := 106) (tgt := 128) dX11_lapsed_106 (by decide) ?_
      exact J_iret (pc := 128) rfl rfl rfl dX11_lapsed_128 (rqw hQ (by first | exact (if_pos c102).symm | (rw [if_neg c102]; first | exact (if_pos c111).symm | (rw [if_neg c111]; first | exact (if_pos c119).symm | exact (if_neg c119).symm))) rfl)
  · intro T
    refine J_iload (pc := 49) dX11_lapsed_49 rfl ?_
    refine J_iconst (pc := 51) (v := 1) dX11_lapsed_51 (by decide) ?_
    refine J_aload_n (pc := 52) dX11_lapsed_52 rfl ?_
    refine J_getr (pc := 53) dX11_lapsed_53 kc11 fl_X11_23 rfl ?_
    refine J_iconst (pc := 56) (v := 0) dX11_lapsed_56 (by decide) ?_
    refine J_il (pc := 57) dX11_lapsed_57 (by first | rfl | assumption) (rfl : (0 : Int32) = nI 0) ⟨by first | decide | omega, by decide⟩ ?_
    refine J_t1 e0 ?_
    refine J_ishl (pc := 58) dX11_lapsed_58 ?_
    refine J_t1 (sh1 (by omega)) ?_
    refine J_icmp_ge (pc := 59) (tgt := 101) dX11_lapsed_59 (by decide) (fun c59 => absurd c59 (ix_lt rfl hi (by omega))) (fun c59 => ?_)
    refine J_aload_n (pc := 62) dX11_lapsed_62 rfl ?_
    refine J_iload (pc := 63) dX11_lapsed_63 rfl ?_
    refine J_cvw (pc := 65) (N := mX11_isLapsed) dX11_lapsed_65 ml_X11_359 cf_X11_isLapsed cv_X11_isLapsed (r_X11_isLapsed (S := S0 S) hH hW hM hL) rfl rfl (Nat.le_of_ble_eq_true rfl) (by decide) (rv_of (ci := 11) rfl rfl rfl) ?_
    intro T
    refine J_ifp_ne (pc := 68) (tgt := 74) dX11_lapsed_68 (by decide) (fun c68 => ?_) (fun c68 => ?_)
    · refine J_iload_n (pc := 74) dX11_lapsed_74 rfl ?_
      refine J_if_ne (pc := 75) (tgt := 83) dX11_lapsed_75 (by decide) (fun c75 => ?_) (fun c75 => ?_)
      · refine J_iload_n (pc := 83) dX11_lapsed_83 rfl ?_
        refine J_istore_n (pc := 84) dX11_lapsed_84 (by decide) rfl ?_
        refine J_iload (pc := 85) dX11_lapsed_85 rfl ?_
        refine J_iload (pc := 87) dX11_lapsed_87 rfl ?_
        refine J_iand (pc := 89) dX11_lapsed_89 ?_
        refine J_istore (pc := 90) dX11_lapsed_90 (by decide) rfl ?_
        refine J_iinc (pc := 92) (v := 1) dX11_lapsed_92 rfl (by decide) rfl ?_
        have e : (lpT pp (1 <<< (nI ns &&& 31) - 1) (i + 1)) = if pp i = true then ((lpT pp (1 <<< (nI ns &&& 31) - 1) i).1 + 1, (if (lpT pp (1 <<< (nI ns &&& 31) - 1) i).1 = 0 then ix i else (lpT pp (1 <<< (nI ns &&& 31) - 1) i).2.1), (lpT pp (1 <<< (nI ns &&& 31) - 1) i).2.2 &&& ix i) else (lpT pp (1 <<< (nI ns &&& 31) - 1) i) := rfl
        first
          | (rw [if_pos (show pp i = true by rw [hpp]; exact c68), if_pos c75] at e; rw [e] at ih; refine J_iinc (pc := 95) (v := 1) dX11_lapsed_95 rfl (by decide) rfl ?_; refine J_goto (pc := 98) (tgt := 49) dX11_lapsed_98 (by decide) ?_; exact ih T)
          | (rw [if_pos (show pp i = true by rw [hpp]; exact c68), if_neg c75] at e; rw [e] at ih; refine J_iinc (pc := 95) (v := 1) dX11_lapsed_95 rfl (by decide) rfl ?_; refine J_goto (pc := 98) (tgt := 49) dX11_lapsed_98 (by decide) ?_; exact ih T)
          | (rw [if_neg (show ¬ pp i = true by rw [hpp]; exact c68)] at e; rw [e] at ih; refine J_iinc (pc := 95) (v := 1) dX11_lapsed_95 rfl (by decide) rfl ?_; refine J_goto (pc := 98) (tgt := 49) dX11_lapsed_98 (by decide) ?_; exact ih T)
      · refine J_iload (pc := 78) dX11_lapsed_78 rfl ?_
        refine J_goto (pc := 80) (tgt := 84) dX11_lapsed_80 (by decide) ?_
        refine J_istore_n (pc := 84) dX11_lapsed_84 (by decide) rfl ?_
        refine J_iload (pc := 85) dX11_lapsed_85 rfl ?_
        refine J_iload (pc := 87) dX11_lapsed_87 rfl ?_
        refine J_iand (pc := 89) dX11_lapsed_89 ?_
        refine J_istore (pc := 90) dX11_lapsed_90 (by decide) rfl ?_
        refine J_iinc (pc := 92) (v := 1) dX11_lapsed_92 rfl (by decide) rfl ?_
        have e : (lpT pp (1 <<< (nI ns &&& 31) - 1) (i + 1)) = if pp i = true then ((lpT pp (1 <<< (nI ns &&& 31) - 1) i).1 + 1, (if (lpT pp (1 <<< (nI ns &&& 31) - 1) i).1 = 0 then ix i else (lpT pp (1 <<< (nI ns &&& 31) - 1) i).2.1), (lpT pp (1 <<< (nI ns &&& 31) - 1) i).2.2 &&& ix i) else (lpT pp (1 <<< (nI ns &&& 31) - 1) i) := rfl
        first
          | (rw [if_pos (show pp i = true by rw [hpp]; exact c68), if_pos c75] at e; rw [e] at ih; refine J_iinc (pc := 95) (v := 1) dX11_lapsed_95 rfl (by decide) rfl ?_; refine J_goto (pc := 98) (tgt := 49) dX11_lapsed_98 (by decide) ?_; exact ih T)
          | (rw [if_pos (show pp i = true by rw [hpp]; exact c68), if_neg c75] at e; rw [e] at ih; refine J_iinc (pc := 95) (v := 1) dX11_lapsed_95 rfl (by decide) rfl ?_; refine J_goto (pc := 98) (tgt := 49) dX11_lapsed_98 (by decide) ?_; exact ih T)
          | (rw [if_neg (show ¬ pp i = true by rw [hpp]; exact c68)] at e; rw [e] at ih; refine J_iinc (pc := 95) (v := 1) dX11_lapsed_95 rfl (by decide) rfl ?_; refine J_goto (pc := 98) (tgt := 49) dX11_lapsed_98 (by decide) ?_; exact ih T)
    · refine J_goto (pc := 71) (tgt := 95) dX11_lapsed_71 (by decide) ?_
      have e : (lpT pp (1 <<< (nI ns &&& 31) - 1) (i + 1)) = if pp i = true then ((lpT pp (1 <<< (nI ns &&& 31) - 1) i).1 + 1, (if (lpT pp (1 <<< (nI ns &&& 31) - 1) i).1 = 0 then ix i else (lpT pp (1 <<< (nI ns &&& 31) - 1) i).2.1), (lpT pp (1 <<< (nI ns &&& 31) - 1) i).2.2 &&& ix i) else (lpT pp (1 <<< (nI ns &&& 31) - 1) i) := rfl
      first
        | (rw [if_pos (show pp i = true by rw [hpp]; exact c68), if_pos c75] at e; rw [e] at ih; refine J_iinc (pc := 95) (v := 1) dX11_lapsed_95 rfl (by decide) rfl ?_; refine J_goto (pc := 98) (tgt := 49) dX11_lapsed_98 (by decide) ?_; exact ih T)
        | (rw [if_pos (show pp i = true by rw [hpp]; exact c68), if_neg c75] at e; rw [e] at ih; refine J_iinc (pc := 95) (v := 1) dX11_lapsed_95 rfl (by decide) rfl ?_; refine J_goto (pc := 98) (tgt := 49) dX11_lapsed_98 (by decide) ?_; exact ih T)
        | (rw [if_neg (show ¬ pp i = true by rw [hpp]; exact c68)] at e; rw [e] at ih; refine J_iinc (pc := 95) (v := 1) dX11_lapsed_95 rfl (by decide) rfl ?_; refine J_goto (pc := 98) (tgt := 49) dX11_lapsed_98 (by decide) ?_; exact ih T)
def akT (td : Nat → Bool) (ws : Nat → Int32) : Nat → Int32 × Int32
  | 0 => (-1, -1)
  | r + 1 => if td r = true then akT td ws r else if (akT td ws r).1 = -1 ∨ ws r < (akT td ws r).2 then (ix r, ws r) else akT td ws r
def askW (S : Sx) (ns nr : Nat) (ow : Nat → Nat) (m : Nat) (wv : Nat → Nat × Nat) (ln : Nat) (lr : Nat → Nat) : Nat → Int32 := (fun r => if mpi S nr ow m wv r true = mpi S nr ow m wv r false then (ctT (fun i => ilB S ns nr ow m wv ln lr (ix i)) (fun i => bit (ix i) (nI (ow r))) (2 ^ ns)).1 + (ctT (fun i => ilB S ns nr ow m wv ln lr (ix i)) (fun i => bit (ix i) (nI (ow r))) (2 ^ ns)).2 else if (ctT (fun i => ilB S ns nr ow m wv ln lr (ix i)) (fun i => bit (ix i) (nI (ow r))) (2 ^ ns)).2 < (ctT (fun i => ilB S ns nr ow m wv ln lr (ix i)) (fun i => bit (ix i) (nI (ow r))) (2 ^ ns)).1 then (ctT (fun i => ilB S ns nr ow m wv ln lr (ix i)) (fun i => bit (ix i) (nI (ow r))) (2 ^ ns)).1 else (ctT (fun i => ilB S ns nr ow m wv ln lr (ix i)) (fun i => bit (ix i) (nI (ow r))) (2 ^ ns)).2)
def askD (S : Sx) (ln : Nat) : Nat → Bool := (fun r => decide (allB (fun k => decide (sa S (431 + k) 0 ≠ nI r)) ln = false))
theorem r_X11_ask_er {g : Gp} {S : Sx} {x : Int32} (hv : ¬ (0 ≤ x ∧ x ≤ 1)) : RT g mX11_ask 2 [.ref 59, .int x] S (some (.int 0)) (er S 1 1) := by
  refine RT_ofQ ⟨rfl, rfl⟩ (Nat.le_of_ble_eq_true rfl) (fun sz Q hQ => ?_)
  refine J_aload_n (pc := 0) dX11_ask_0 rfl ?_
  refine J_iconst (pc := 1) (v := 0) dX11_ask_1 (by decide) ?_
  refine J_puti (pc := 2) dX11_ask_2 kc11 fl_X11_103 rfl ⟨rfl, rfl⟩ ?_
  refine J_aload_n (pc := 5) dX11_ask_5 rfl ?_
  refine J_iload_n (pc := 6) dX11_ask_6 rfl ?_
  refine J_iconst (pc := 7) (v := 0) dX11_ask_7 (by decide) ?_
  refine J_iconst (pc := 8) (v := 1) dX11_ask_8 (by decide) ?_
  refine J_csr (pc := 9) (N := mX11_in) dX11_ask_9 ml_X11_137 cf_X11_in cs_X11_in r_X11_in rfl rfl (Nat.le_of_ble_eq_true rfl) (by decide) ?_
  refine J_ifp_ne (pc := 12) (tgt := 19) dX11_ask_12 (by decide) (fun c12 => absurd c12 hv) (fun c12 => ?_)
  refine J_iconst (pc := 15) (v := 1) dX11_ask_15 (by decide) ?_
  refine J_goto (pc := 16) (tgt := 20) dX11_ask_16 (by decide) ?_
  refine J_iconst (pc := 20) (v := 1) dX11_ask_20 (by decide) ?_
  refine J_iconst (pc := 21) (v := 1) dX11_ask_21 (by decide) ?_
  refine J_cvr (pc := 22) (N := mX11_bad) dX11_ask_22 ml_X11_183 cf_X11_bad cv_X11_bad (r_X11_bad_t (k := 1) rfl (by decide) (by decide) rfl) rfl rfl (Nat.le_of_ble_eq_true rfl) (by decide) (rv_of (ci := 11) rfl rfl rfl) ?_
  refine J_if_eq (pc := 25) (tgt := 30) dX11_ask_25 (by decide) (fun c25 => absurd c25 (by decide)) (fun c25 => ?_)
  refine J_iconst (pc := 28) (v := 0) dX11_ask_28 (by decide) ?_
  exact J_iret (pc := 29) rfl rfl rfl dX11_ask_29 (rq hQ (by first | rfl | simp [bI, *] | simp_all [bI]) rfl)
theorem r_X11_ask {g : Gp} {S : Sx} {x : Int32} {ns nr np m ln : Nat} {ow : Nat → Nat} {wv : Nat → Nat × Nat} {lr : Nat → Nat} (hH : MH S ns nr np ow) (hW : LawW m wv) (hM : LawM S m wv) (hL : LN S nr ln lr) (hv : 0 ≤ x ∧ x ≤ 1) : RW g mX11_ask 8 [.ref 59, .int x] S (some (.int (if x = 0 then (akT (askD S ln) (askW S ns nr ow m wv ln lr) nr).1 else (akT (askD S ln) (askW S ns nr ow m wv ln lr) nr).2))) (S0 S) := by
  refine RW_ofQ ⟨rfl, rfl⟩ (Nat.le_of_ble_eq_true rfl) (fun T sz Q hQ => ?_)
  have hH' := hH
  obtain ⟨e0, e1, e2, l0, l1, l2, ho⟩ := hH'
  refine J_aload_n (pc := 0) dX11_ask_0 rfl ?_
  refine J_iconst (pc := 1) (v := 0) dX11_ask_1 (by decide) ?_
  refine J_putiw (pc := 2) dX11_ask_2 kc11 fl_X11_103 rfl ⟨rfl, rfl⟩ ?_
  refine J_aload_n (pc := 5) dX11_ask_5 rfl ?_
  refine J_iload_n (pc := 6) dX11_ask_6 rfl ?_
  refine J_iconst (pc := 7) (v := 0) dX11_ask_7 (by decide) ?_
  refine J_iconst (pc := 8) (v := 1) dX11_ask_8 (by decide) ?_
  refine J_csr (pc := 9) (N := mX11_in) dX11_ask_9 ml_X11_137 cf_X11_in cs_X11_in r_X11_in rfl rfl (Nat.le_of_ble_eq_true rfl) (by decide) ?_
  refine J_ifp_ne (pc := 12) (tgt := 19) dX11_ask_12 (by decide) (fun c12 => ?_) (fun c12 => absurd hv c12)
  refine J_iconst (pc := 19) (v := 0) dX11_ask_19 (by decide) ?_
  refine J_iconst (pc := 20) (v := 1) dX11_ask_20 (by decide) ?_
  refine J_iconst (pc := 21) (v := 1) dX11_ask_21 (by decide) ?_
  refine J_cvr (pc := 22) (N := mX11_bad) dX11_ask_22 ml_X11_183 cf_X11_bad cv_X11_bad (r_X11_bad_f rfl) rfl rfl (Nat.le_of_ble_eq_true rfl) (by decide) (rv_of (ci := 11) rfl rfl rfl) ?_
  refine J_if_eq (pc := 25) (tgt := 30) dX11_ask_25 (by decide) (fun c25 => ?_) (fun c25 => absurd rfl c25)
  refine J_iconst (pc := 30) (v := -1) dX11_ask_30 (by decide) ?_
  refine J_istore_n (pc := 31) dX11_ask_31 (by decide) rfl ?_
  refine J_iconst (pc := 32) (v := -1) dX11_ask_32 (by decide) ?_
  refine J_istore_n (pc := 33) dX11_ask_33 (by decide) rfl ?_
  refine J_iconst (pc := 34) (v := 0) dX11_ask_34 (by decide) ?_
  refine J_istore (pc := 35) dX11_ask_35 (by decide) rfl ?_
  have p8 := p2_le l0
  obtain ⟨td, htd⟩ : ∃ q, q = askD S ln := ⟨_, rfl⟩
  obtain ⟨ws, hws⟩ : ∃ q, q = askW S ns nr ow m wv ln lr := ⟨_, rfl⟩
  rw [← htd, ← hws] at hQ
  show J g mX11_ask 8 [] 37 [some (.ref 59), some (.int x), some (.int (akT td ws 0).1), some (.int (akT td ws 0).2), some (.int (ix 0)), none, none, none] [] (hs (w1 (S0 S) T)) sz 0 0 Q
  refine dn_ind (n := nr) (P := fun i => ∀ T, J g mX11_ask 8 [] 37 [some (.ref 59), some (.int x), some (.int (akT td ws i).1), some (.int (akT td ws i).2), some (.int (ix i)), none, none, none] [] (hs (w1 (S0 S) T)) sz 0 0 Q) ?_ (fun i hi ih => ?_) 0 (Nat.zero_le _) _
  · intro T
    refine J_iload (pc := 37) dX11_ask_37 rfl ?_
    refine J_aload_n (pc := 39) dX11_ask_39 rfl ?_
    refine J_getr (pc := 40) dX11_ask_40 kc11 fl_X11_23 rfl ?_
    refine J_iconst (pc := 43) (v := 1) dX11_ask_43 (by decide) ?_
    refine J_il (pc := 44) dX11_ask_44 (by first | rfl | assumption) (rfl : (1 : Int32) = nI 1) ⟨by first | decide | omega, by decide⟩ ?_
    refine J_icmp_ge (pc := 45) (tgt := 186) dX11_ask_45 (by decide) (fun c45 => ?_) (fun c45 => absurd (ix_ge e1) c45)
    refine J_iload_n (pc := 186) dX11_ask_186 rfl ?_
    refine J_if_ne (pc := 187) (tgt := 194) dX11_ask_187 (by decide) (fun c187 => ?_) (fun c187 => ?_)
    · refine J_iload_n (pc := 194) dX11_ask_194 rfl ?_
      exact J_iret (pc := 195) rfl rfl rfl dX11_ask_195 (rqw hQ (by first | exact (if_pos c187).symm | exact (if_neg c187).symm) rfl)
    · refine J_iload_n (pc := 190) dX11_ask_190 rfl ?_
      refine J_goto (pc := 191) (tgt := 195) dX11_ask_191 (by decide) ?_
      exact J_iret (pc := 195) rfl rfl rfl dX11_ask_195 (rqw hQ (by first | exact (if_pos c187).symm | exact (if_neg c187).symm) rfl)
  · intro T
    refine J_iload (pc := 37) dX11_ask_37 rfl ?_
    refine J_aload_n (pc := 39) dX11_ask_39 rfl ?_
    refine J_getr (pc := 40) dX11_ask_40 kc11 fl_X11_23 rfl ?_
    refine J_iconst (pc := 43) (v := 1) dX11_ask_43 (by decide) ?_
    refine J_il (pc := 44) dX11_ask_44 (by first | rfl | assumption) (rfl : (1 : Int32) = nI 1) ⟨by first | decide | omega, by decide⟩ ?_
    refine J_icmp_ge (pc := 45) (tgt := 186) dX11_ask_45 (by decide) (fun c45 => absurd c45 (ix_lt e1 hi (by omega))) (fun c45 => ?_)
    refine J_aload_n (pc := 48) dX11_ask_48 rfl ?_
    refine J_iload (pc := 49) dX11_ask_49 rfl ?_
    refine J_t1 (ix_nI i) ?_
    refine J_cvr (pc := 51) (N := mX11_isTold) dX11_ask_51 ml_X11_362 cf_X11_isTold cv_X11_isTold (r_X11_isTold (S := w1 (S0 S) T) hL) rfl rfl (Nat.le_of_ble_eq_true rfl) (by decide) (rv_of (ci := 11) rfl rfl rfl) ?_
    refine J_ifp_eq (pc := 54) (tgt := 60) dX11_ask_54 (by decide) (fun c54 => ?_) (fun c54 => ?_)
    · refine J_iconst (pc := 60) (v := 0) dX11_ask_60 (by decide) ?_
      refine J_istore (pc := 61) dX11_ask_61 (by decide) rfl ?_
      refine J_iconst (pc := 63) (v := 0) dX11_ask_63 (by decide) ?_
      refine J_istore (pc := 64) dX11_ask_64 (by decide) rfl ?_
      refine J_iconst (pc := 66) (v := 0) dX11_ask_66 (by decide) ?_
      refine J_istore (pc := 67) dX11_ask_67 (by decide) rfl ?_
      obtain ⟨pp, hpp⟩ : ∃ q, q = fun j => ilB S ns nr ow m wv ln lr (ix j) := ⟨_, rfl⟩
      obtain ⟨qq, hqq⟩ : ∃ q, q = fun j => bit (ix j) (nI (ow i)) := ⟨_, rfl⟩
      show J g mX11_ask 8 [] 69 [some (.ref 59), some (.int x), some (.int (akT td ws i).1), some (.int (akT td ws i).2), some (.int (ix i)), some (.int 0), some (.int 0), some (.int 0)] [] (hs (w1 (S0 S) T)) sz 0 0 Q
      have ih0 := ih
      clear ih
      refine dn_ind (n := 2 ^ ns) (P := fun j => ∀ T, J g mX11_ask 8 [] 69 [some (.ref 59), some (.int x), some (.int (akT td ws i).1), some (.int (akT td ws i).2), some (.int (ix i)), some (.int (ctT pp qq j).1), some (.int (ctT pp qq j).2), some (.int (ix j))] [] (hs (w1 (S0 S) T)) sz 0 0 Q) ?_ (fun j hj ih => ?_) 0 (Nat.zero_le _) _
      · intro T
        have hwi : ws i = if mpi S nr ow m wv i true = mpi S nr ow m wv i false then (ctT pp qq (2 ^ ns)).1 + (ctT pp qq (2 ^ ns)).2 else if (ctT pp qq (2 ^ ns)).2 < (ctT pp qq (2 ^ ns)).1 then (ctT pp qq (2 ^ ns)).1 else (ctT pp qq (2 ^ ns)).2 := by rw [hws, hpp, hqq]; rfl
        refine J_iload (pc := 69) dX11_ask_69 rfl ?_
        refine J_iconst (pc := 71) (v := 1) dX11_ask_71 (by decide) ?_
        refine J_aload_n (pc := 72) dX11_ask_72 rfl ?_
        refine J_getr (pc := 73) dX11_ask_73 kc11 fl_X11_23 rfl ?_
        refine J_iconst (pc := 76) (v := 0) dX11_ask_76 (by decide) ?_
        refine J_il (pc := 77) dX11_ask_77 (by first | rfl | assumption) (rfl : (0 : Int32) = nI 0) ⟨by first | decide | omega, by decide⟩ ?_
        refine J_t1 e0 ?_
        refine J_ishl (pc := 78) dX11_ask_78 ?_
        refine J_t1 (sh1 (by omega)) ?_
        refine J_icmp_ge (pc := 79) (tgt := 126) dX11_ask_79 (by decide) (fun c79 => ?_) (fun c79 => absurd (ix_ge rfl) c79)
        refine J_aload_n (pc := 126) dX11_ask_126 rfl ?_
        refine J_iload (pc := 127) dX11_ask_127 rfl ?_
        refine J_iconst (pc := 129) (v := 1) dX11_ask_129 (by decide) ?_
        refine J_st (st' := [.int (bI true), .int (nI i), .ref 59]) (by rw [ix_nI]; rfl) ?_
        refine J_cvw (pc := 130) (N := mX11_powerIf) dX11_ask_130 ml_X11_355 cf_X11_powerIf cv_X11_powerIf (r_X11_powerIf (S := S0 S) (r := i) (b := true) hH hW hM hi) rfl rfl (Nat.le_of_ble_eq_true rfl) (by decide) (rv_of (ci := 11) rfl rfl rfl) ?_
        intro T
        refine J_aload_n (pc := 133) dX11_ask_133 rfl ?_
        refine J_iload (pc := 134) dX11_ask_134 rfl ?_
        refine J_iconst (pc := 136) (v := 0) dX11_ask_136 (by decide) ?_
        refine J_st (st' := [.int (bI false), .int (nI i), .ref 59, .int (mpi S nr ow m wv i true)]) (by rw [ix_nI]; rfl) ?_
        refine J_cvw (pc := 137) (N := mX11_powerIf) dX11_ask_137 ml_X11_355 cf_X11_powerIf cv_X11_powerIf (r_X11_powerIf (S := S0 S) (r := i) (b := false) hH hW hM hi) rfl rfl (Nat.le_of_ble_eq_true rfl) (by decide) (rv_of (ci := 11) rfl rfl rfl) ?_
        intro T
        refine J_mid2 158 (ws i) ?_ (fun hj140 => ?_)
        · refine J_istore (pc := 158) dX11_ask_158 (by decide) rfl ?_
          refine J_iload_n (pc := 160) dX11_ask_160 rfl ?_
          refine J_iconst (pc := 161) (v := -1) dX11_ask_161 (by decide) ?_
          refine J_icmp_eq (pc := 162) (tgt := 174) dX11_ask_162 (by decide) (fun c162 => ?_) (fun c162 => ?_)
          · refine J_iload (pc := 174) dX11_ask_174 rfl ?_
            refine J_istore_n (pc := 176) dX11_ask_176 (by decide) rfl ?_
            refine J_iload (pc := 177) dX11_ask_177 rfl ?_
            refine J_istore_n (pc := 179) dX11_ask_179 (by decide) rfl ?_
            have e : akT td ws (i + 1) = if td i = true then akT td ws i else if (akT td ws i).1 = -1 ∨ ws i < (akT td ws i).2 then (ix i, ws i) else akT td ws i := rfl
            rw [if_neg (show ¬ td i = true by rw [htd]; exact fun z => c54 (of_decide_eq_true z))] at e
            first
              | (rw [if_pos (Or.inl c162)] at e; rw [e] at ih0; refine J_iinc (pc := 180) (v := 1) dX11_ask_180 rfl (by decide) rfl ?_; refine J_goto (pc := 183) (tgt := 37) dX11_ask_183 (by decide) ?_; refine J_forget (fun k u hu => ?_) (ih0 T); rcases k with _ | _ | _ | _ | _ | _ | _ | _ | k <;> first | exact hu | (simp at hu))
              | (rw [if_pos (Or.inr c168)] at e; rw [e] at ih0; refine J_iinc (pc := 180) (v := 1) dX11_ask_180 rfl (by decide) rfl ?_; refine J_goto (pc := 183) (tgt := 37) dX11_ask_183 (by decide) ?_; refine J_forget (fun k u hu => ?_) (ih0 T); rcases k with _ | _ | _ | _ | _ | _ | _ | _ | k <;> first | exact hu | (simp at hu))
              | (rw [if_neg (fun q => q.elim c162 c168)] at e; rw [e] at ih0; refine J_iinc (pc := 180) (v := 1) dX11_ask_180 rfl (by decide) rfl ?_; refine J_goto (pc := 183) (tgt := 37) dX11_ask_183 (by decide) ?_; refine J_forget (fun k u hu => ?_) (ih0 T); rcases k with _ | _ | _ | _ | _ | _ | _ | _ | k <;> first | exact hu | (simp at hu))
          · refine J_iload (pc := 165) dX11_ask_165 rfl ?_
            refine J_iload_n (pc := 167) dX11_ask_167 rfl ?_
            refine J_icmp_lt (pc := 168) (tgt := 174) dX11_ask_168 (by decide) (fun c168 => ?_) (fun c168 => ?_)
            · refine J_iload (pc := 174) dX11_ask_174 rfl ?_
              refine J_istore_n (pc := 176) dX11_ask_176 (by decide) rfl ?_
              refine J_iload (pc := 177) dX11_ask_177 rfl ?_
              refine J_istore_n (pc := 179) dX11_ask_179 (by decide) rfl ?_
              have e : akT td ws (i + 1) = if td i = true then akT td ws i else if (akT td ws i).1 = -1 ∨ ws i < (akT td ws i).2 then (ix i, ws i) else akT td ws i := rfl
              rw [if_neg (show ¬ td i = true by rw [htd]; exact fun z => c54 (of_decide_eq_true z))] at e
              first
                | (rw [if_pos (Or.inl c162)] at e; rw [e] at ih0; refine J_iinc (pc := 180) (v := 1) dX11_ask_180 rfl (by decide) rfl ?_; refine J_goto (pc := 183) (tgt := 37) dX11_ask_183 (by decide) ?_; refine J_forget (fun k u hu => ?_) (ih0 T); rcases k with _ | _ | _ | _ | _ | _ | _ | _ | k <;> first | exact hu | (simp at hu))
                | (rw [if_pos (Or.inr c168)] at e; rw [e] at ih0; refine J_iinc (pc := 180) (v := 1) dX11_ask_180 rfl (by decide) rfl ?_; refine J_goto (pc := 183) (tgt := 37) dX11_ask_183 (by decide) ?_; refine J_forget (fun k u hu => ?_) (ih0 T); rcases k with _ | _ | _ | _ | _ | _ | _ | _ | k <;> first | exact hu | (simp at hu))
                | (rw [if_neg (fun q => q.elim c162 c168)] at e; rw [e] at ih0; refine J_iinc (pc := 180) (v := 1) dX11_ask_180 rfl (by decide) rfl ?_; refine J_goto (pc := 183) (tgt := 37) dX11_ask_183 (by decide) ?_; refine J_forget (fun k u hu => ?_) (ih0 T); rcases k with _ | _ | _ | _ | _ | _ | _ | _ | k <;> first | exact hu | (simp at hu))
            · refine J_goto (pc := 171) (tgt := 180) dX11_ask_171 (by decide) ?_
              have e : akT td ws (i + 1) = if td i = true then akT td ws i else if (akT td ws i).1 = -1 ∨ ws i < (akT td ws i).2 then (ix i, ws i) else akT td ws i := rfl
              rw [if_neg (show ¬ td i = true by rw [htd]; exact fun z => c54 (of_decide_eq_true z))] at e
              first
                | (rw [if_pos (Or.inl c162)] at e; rw [e] at ih0; refine J_iinc (pc := 180) (v := 1) dX11_ask_180 rfl (by decide) rfl ?_; refine J_goto (pc := 183) (tgt := 37) dX11_ask_183 (by decide) ?_; refine J_forget (fun k u hu => ?_) (ih0 T); rcases k with _ | _ | _ | _ | _ | _ | _ | _ | k <;> first | exact hu | (simp at hu))
                | (rw [if_pos (Or.inr c168)] at e; rw [e] at ih0; refine J_iinc (pc := 180) (v := 1) dX11_ask_180 rfl (by decide) rfl ?_; refine J_goto (pc := 183) (tgt := 37) dX11_ask_183 (by decide) ?_; refine J_forget (fun k u hu => ?_) (ih0 T); rcases k with _ | _ | _ | _ | _ | _ | _ | _ | k <;> first | exact hu | (simp at hu))
                | (rw [if_neg (fun q => q.elim c162 c168)] at e; rw [e] at ih0; refine J_iinc (pc := 180) (v := 1) dX11_ask_180 rfl (by decide) rfl ?_; refine J_goto (pc := 183) (tgt := 37) dX11_ask_183 (by decide) ?_; refine J_forget (fun k u hu => ?_) (ih0 T); rcases k with _ | _ | _ | _ | _ | _ | _ | _ | k <;> first | exact hu | (simp at hu))
        · refine J_icmp_ne (pc := 140) (tgt := 151) dX11_ask_140 (by decide) (fun c140 => ?_) (fun c140 => ?_)
          · refine J_iload (pc := 151) dX11_ask_151 rfl ?_
            refine J_iload (pc := 153) dX11_ask_153 rfl ?_
            refine J_csr (pc := 155) (N := mX11_more) dX11_ask_155 ml_X11_248 cf_X11_more cs_X11_more r_X11_more rfl rfl (Nat.le_of_ble_eq_true rfl) (by decide) ?_
            exact hj140 _ (by rw [hwi]; first | exact (if_pos c140).symm | exact (if_neg c140).symm)
          · refine J_iload (pc := 143) dX11_ask_143 rfl ?_
            refine J_iload (pc := 145) dX11_ask_145 rfl ?_
            refine J_iadd (pc := 147) dX11_ask_147 ?_
            refine J_goto (pc := 148) (tgt := 158) dX11_ask_148 (by decide) ?_
            exact hj140 _ (by rw [hwi]; first | exact (if_pos c140).symm | exact (if_neg c140).symm)
      · intro T
        refine J_iload (pc := 69) dX11_ask_69 rfl ?_
        refine J_iconst (pc := 71) (v := 1) dX11_ask_71 (by decide) ?_
        refine J_aload_n (pc := 72) dX11_ask_72 rfl ?_
        refine J_getr (pc := 73) dX11_ask_73 kc11 fl_X11_23 rfl ?_
        refine J_iconst (pc := 76) (v := 0) dX11_ask_76 (by decide) ?_
        refine J_il (pc := 77) dX11_ask_77 (by first | rfl | assumption) (rfl : (0 : Int32) = nI 0) ⟨by first | decide | omega, by decide⟩ ?_
        refine J_t1 e0 ?_
        refine J_ishl (pc := 78) dX11_ask_78 ?_
        refine J_t1 (sh1 (by omega)) ?_
        refine J_icmp_ge (pc := 79) (tgt := 126) dX11_ask_79 (by decide) (fun c79 => absurd c79 (ix_lt rfl hj (by omega))) (fun c79 => ?_)
        refine J_aload_n (pc := 82) dX11_ask_82 rfl ?_
        refine J_iload (pc := 83) dX11_ask_83 rfl ?_
        refine J_cvw (pc := 85) (N := mX11_isLapsed) dX11_ask_85 ml_X11_359 cf_X11_isLapsed cv_X11_isLapsed (r_X11_isLapsed (S := S0 S) hH hW hM hL) rfl rfl (Nat.le_of_ble_eq_true rfl) (by decide) (rv_of (ci := 11) rfl rfl rfl) ?_
        intro T
        refine J_ifp_ne (pc := 88) (tgt := 94) dX11_ask_88 (by decide) (fun c88 => ?_) (fun c88 => ?_)
        · refine J_iload (pc := 94) dX11_ask_94 rfl ?_
          refine J_aload_n (pc := 96) dX11_ask_96 rfl ?_
          refine J_getr (pc := 97) dX11_ask_97 kc11 fl_X11_43 rfl ?_
          refine J_iload (pc := 100) dX11_ask_100 rfl ?_
          refine J_ar1 (pc := 102) dX11_ask_102 rfl (by first | with_reducible rfl | assumption | exact ix_nI _ | rfl) ⟨by first | decide | omega, by decide⟩ ?_
          refine J_iconst (pc := 103) (v := 0) dX11_ask_103 (by decide) ?_
          refine J_il (pc := 104) dX11_ask_104 (lay_relic (by omega)) (rfl : (0 : Int32) = nI 0) ⟨by first | decide | omega, by decide⟩ ?_
          refine J_t1 (y := nI (ow i)) (ho i hi).1 ?_
          refine J_csr (pc := 105) (N := mX11_has) dX11_ask_105 ml_X11_263 cf_X11_has cs_X11_has r_X11_has rfl rfl (Nat.le_of_ble_eq_true rfl) (by decide) ?_
          refine J_ifp_eq (pc := 108) (tgt := 117) dX11_ask_108 (by decide) (fun c108 => ?_) (fun c108 => ?_)
          · refine J_iinc (pc := 117) (v := 1) dX11_ask_117 rfl (by decide) rfl ?_
            have e : (ctT pp qq (j + 1)) = if pp j = true then (if qq j = true then ((ctT pp qq j).1 + 1, (ctT pp qq j).2) else ((ctT pp qq j).1, (ctT pp qq j).2 + 1)) else (ctT pp qq j) := rfl
            first
              | (rw [if_neg (show ¬ pp j = true by rw [hpp]; exact c88)] at e; rw [e] at ih; refine J_iinc (pc := 120) (v := 1) dX11_ask_120 rfl (by decide) rfl ?_; refine J_goto (pc := 123) (tgt := 69) dX11_ask_123 (by decide) ?_; exact ih T)
              | (rw [if_pos (show pp j = true by rw [hpp]; exact c88), if_pos (show qq j = true by rw [hqq]; exact decide_eq_true c108)] at e; rw [e] at ih; refine J_iinc (pc := 120) (v := 1) dX11_ask_120 rfl (by decide) rfl ?_; refine J_goto (pc := 123) (tgt := 69) dX11_ask_123 (by decide) ?_; exact ih T)
              | (rw [if_pos (show pp j = true by rw [hpp]; exact c88), if_neg (show ¬ qq j = true by rw [hqq]; exact fun z => c108 (of_decide_eq_true z))] at e; rw [e] at ih; refine J_iinc (pc := 120) (v := 1) dX11_ask_120 rfl (by decide) rfl ?_; refine J_goto (pc := 123) (tgt := 69) dX11_ask_123 (by decide) ?_; exact ih T)
          · refine J_iinc (pc := 111) (v := 1) dX11_ask_111 rfl (by decide) rfl ?_
            refine J_goto (pc := 114) (tgt := 120) dX11_ask_114 (by decide) ?_
            have e : (ctT pp qq (j + 1)) = if pp j = true then (if qq j = true then ((ctT pp qq j).1 + 1, (ctT pp qq j).2) else ((ctT pp qq j).1, (ctT pp qq j).2 + 1)) else (ctT pp qq j) := rfl
            first
              | (rw [if_neg (show ¬ pp j = true by rw [hpp]; exact c88)] at e; rw [e] at ih; refine J_iinc (pc := 120) (v := 1) dX11_ask_120 rfl (by decide) rfl ?_; refine J_goto (pc := 123) (tgt := 69) dX11_ask_123 (by decide) ?_; exact ih T)
              | (rw [if_pos (show pp j = true by rw [hpp]; exact c88), if_pos (show qq j = true by rw [hqq]; exact decide_eq_true c108)] at e; rw [e] at ih; refine J_iinc (pc := 120) (v := 1) dX11_ask_120 rfl (by decide) rfl ?_; refine J_goto (pc := 123) (tgt := 69) dX11_ask_123 (by decide) ?_; exact ih T)
              | (rw [if_pos (show pp j = true by rw [hpp]; exact c88), if_neg (show ¬ qq j = true by rw [hqq]; exact fun z => c108 (of_decide_eq_true z))] at e; rw [e] at ih; refine J_iinc (pc := 120) (v := 1) dX11_ask_120 rfl (by decide) rfl ?_; refine J_goto (pc := 123) (tgt := 69) dX11_ask_123 (by decide) ?_; exact ih T)
        · refine J_goto (pc := 91) (tgt := 120) dX11_ask_91 (by decide) ?_
          have e : (ctT pp qq (j + 1)) = if pp j = true then (if qq j = true then ((ctT pp qq j).1 + 1, (ctT pp qq j).2) else ((ctT pp qq j).1, (ctT pp qq j).2 + 1)) else (ctT pp qq j) := rfl
          first
            | (rw [if_neg (show ¬ pp j = true by rw [hpp]; exact c88)] at e; rw [e] at ih; refine J_iinc (pc := 120) (v := 1) dX11_ask_120 rfl (by decide) rfl ?_; refine J_goto (pc := 123) (tgt := 69) dX11_ask_123 (by decide) ?_; exact ih T)
            | (rw [if_pos (show pp j = true by rw [hpp]; exact c88), if_pos (show qq j = true by rw [hqq]; exact decide_eq_true c108)] at e; rw [e] at ih; refine J_iinc (pc := 120) (v := 1) dX11_ask_120 rfl (by decide) rfl ?_; refine J_goto (pc := 123) (tgt := 69) dX11_ask_123 (by decide) ?_; exact ih T)
            | (rw [if_pos (show pp j = true by rw [hpp]; exact c88), if_neg (show ¬ qq j = true by rw [hqq]; exact fun z => c108 (of_decide_eq_true z))] at e; rw [e] at ih; refine J_iinc (pc := 120) (v := 1) dX11_ask_120 rfl (by decide) rfl ?_; refine J_goto (pc := 123) (tgt := 69) dX11_ask_123 (by decide) ?_; exact ih T)
    · refine J_goto (pc := 57) (tgt := 180) dX11_ask_57 (by decide) ?_
      have ih0 := ih
      have e : akT td ws (i + 1) = if td i = true then akT td ws i else if (akT td ws i).1 = -1 ∨ ws i < (akT td ws i).2 then (ix i, ws i) else akT td ws i := rfl
      rw [if_pos (show td i = true by rw [htd]; exact decide_eq_true c54)] at e
      rw [e] at ih0
      refine J_iinc (pc := 180) (v := 1) dX11_ask_180 rfl (by decide) rfl ?_
      refine J_goto (pc := 183) (tgt := 37) dX11_ask_183 (by decide) ?_
      refine J_forget (fun k u hu => ?_) (ih0 T)
      rcases k with _ | _ | _ | _ | _ | _ | _ | _ | k <;> first | exact hu | (simp at hu)
