/-! the best mean -/
theorem lc_le {x y : Int64} : lg_cmp x y ≤ 0 ↔ x ≤ y := lg_cmp_le x y
theorem lc_eq {x y : Int64} : lg_cmp x y = 0 ↔ x = y := lg_cmp_eq x y
def gbm (pw : Int32 → Int32 → Int32 → Int32) (t : Int32) : Nat → Int32 → Int32 → Int32 → Int64
  | 0, dy, lp, dd => (pw dy lp dd).toInt64 <<< ((4 * nI 0).toInt64 &&& 63)
  | n + 1, dy, lp, dd => if (pw dy lp dd).toInt64 <<< ((4 * nI (n + 1)).toInt64 &&& 63) ≤ t.toInt64 * gbm pw t n (dy / 2 + 1) (lp + 1) (dd + 1) + (16 - t).toInt64 * gbm pw t n (dy + 1) lp (dd + 1) then t.toInt64 * gbm pw t n (dy / 2 + 1) (lp + 1) (dd + 1) + (16 - t).toInt64 * gbm pw t n (dy + 1) lp (dd + 1) else (pw dy lp dd).toInt64 <<< ((4 * nI (n + 1)).toInt64 &&& 63)
theorem r_X11_goesBest {g : Gp} {S : Sx} {r ns nr np m : Nat} {ow : Nat → Nat} {wv : Nat → Nat × Nat} (hH : MH S ns nr np ow) (hW : LawW m wv) (hM : LawM S m wv) (hr : r < nr) : ∀ (n : Nat), n ≤ 12 → ∀ (dy lp dd : Int32), RW g mX11_goesBest (5 + n) [.ref 59, .int (nI r), .int (nI n), .int dy, .int lp, .int dd] S (some (.long (gbm (mpo S 535 nr ow m wv r) (sa S 65 (ow r)) n dy lp dd))) S := by
  intro n
  induction n with
  | zero =>
    intro _ dy lp dd
    obtain ⟨o1, o2⟩ := hH.2.2.2.2.2.2 r hr
    have l1 := hH.2.2.2.2.1
    have l0 := hH.2.2.2.1
    refine RW_ofQ ⟨rfl, rfl⟩ (Nat.le_of_ble_eq_true rfl) (fun T sz Q hQ => ?_)
    refine J_aload_n (pc := 0) dX11_goesBest_0 rfl ?_
    refine J_aload_n (pc := 1) dX11_goesBest_1 rfl ?_
    refine J_getr (pc := 2) dX11_goesBest_2 kc11 fl_X11_73 rfl ?_
    refine J_iload_n (pc := 5) dX11_goesBest_5 rfl ?_
    refine J_iload_n (pc := 6) dX11_goesBest_6 rfl ?_
    refine J_iload (pc := 7) dX11_goesBest_7 rfl ?_
    refine J_iload (pc := 9) dX11_goesBest_9 rfl ?_
    refine J_cvw (pc := 11) (N := mX11_powerOf) dX11_goesBest_11 ml_X11_285 cf_X11_powerOf cv_X11_powerOf (r_X11_powerOf row535 hH hW hM hr) rfl rfl (Nat.le_of_ble_eq_true rfl) (by omega) (rv_of (ci := 11) rfl rfl rfl) ?_
    intro T
    refine J_i2l (pc := 14) dX11_goesBest_14 ?_
    refine J_iconst (pc := 15) (v := 4) dX11_goesBest_15 (by decide) ?_
    refine J_iload_n (pc := 16) dX11_goesBest_16 rfl ?_
    refine J_imul (pc := 17) dX11_goesBest_17 ?_
    refine J_lshl (pc := 18) dX11_goesBest_18 ?_
    refine J_lstore (pc := 19) dX11_goesBest_19 (by decide) rfl ?_
    refine J_iload_n (pc := 21) dX11_goesBest_21 rfl ?_
    refine J_if_ne (pc := 22) (tgt := 28) dX11_goesBest_22 (by decide) (fun c22 => absurd rfl c22) (fun c22 => ?_)
    refine J_lload (pc := 25) dX11_goesBest_25 rfl ?_
    exact J_lret (pc := 27) rfl rfl dX11_goesBest_27 (rqlw hQ rfl rfl)
  | succ n ih =>
    intro hn dy lp dd
    obtain ⟨o1, o2⟩ := hH.2.2.2.2.2.2 r hr
    have l1 := hH.2.2.2.2.1
    have l0 := hH.2.2.2.1
    refine RW_ofQ ⟨rfl, rfl⟩ (Nat.le_of_ble_eq_true rfl) (fun T sz Q hQ => ?_)
    refine J_aload_n (pc := 0) dX11_goesBest_0 rfl ?_
    refine J_aload_n (pc := 1) dX11_goesBest_1 rfl ?_
    refine J_getr (pc := 2) dX11_goesBest_2 kc11 fl_X11_73 rfl ?_
    refine J_iload_n (pc := 5) dX11_goesBest_5 rfl ?_
    refine J_iload_n (pc := 6) dX11_goesBest_6 rfl ?_
    refine J_iload (pc := 7) dX11_goesBest_7 rfl ?_
    refine J_iload (pc := 9) dX11_goesBest_9 rfl ?_
    refine J_cvw (pc := 11) (N := mX11_powerOf) dX11_goesBest_11 ml_X11_285 cf_X11_powerOf cv_X11_powerOf (r_X11_powerOf row535 hH hW hM hr) rfl rfl (Nat.le_of_ble_eq_true rfl) (by omega) (rv_of (ci := 11) rfl rfl rfl) ?_
    intro T
    refine J_i2l (pc := 14) dX11_goesBest_14 ?_
    refine J_iconst (pc := 15) (v := 4) dX11_goesBest_15 (by decide) ?_
    refine J_iload_n (pc := 16) dX11_goesBest_16 rfl ?_
    refine J_imul (pc := 17) dX11_goesBest_17 ?_
    refine J_lshl (pc := 18) dX11_goesBest_18 ?_
    refine J_lstore (pc := 19) dX11_goesBest_19 (by decide) rfl ?_
    refine J_iload_n (pc := 21) dX11_goesBest_21 rfl ?_
    refine J_if_ne (pc := 22) (tgt := 28) dX11_goesBest_22 (by decide) (fun c22 => ?_) (fun c22 => absurd c22 (nI_ne0 (by omega) (by omega)))
    refine J_aload_n (pc := 28) dX11_goesBest_28 rfl ?_
    refine J_getr (pc := 29) dX11_goesBest_29 kc11 fl_X11_29 rfl ?_
    refine J_aload_n (pc := 32) dX11_goesBest_32 rfl ?_
    refine J_getr (pc := 33) dX11_goesBest_33 kc11 fl_X11_43 rfl ?_
    refine J_iload_n (pc := 36) dX11_goesBest_36 rfl ?_
    refine J_ar1 (pc := 37) dX11_goesBest_37 rfl (by first | with_reducible rfl | assumption | exact ix_nI _ | rfl) ⟨by first | decide | omega, by decide⟩ ?_
    refine J_iconst (pc := 38) (v := 0) dX11_goesBest_38 (by decide) ?_
    refine J_il (pc := 39) dX11_goesBest_39 (lay_relic (by omega)) (rfl : (0 : Int32) = nI 0) ⟨by first | decide | omega, by decide⟩ ?_
    refine J_t1 (y := nI (ow r)) o1 ?_
    refine J_il (pc := 40) dX11_goesBest_40 (by first | rfl | assumption) (by first | with_reducible rfl | assumption | exact ix_nI _ | rfl) ⟨by first | decide | omega, by decide⟩ ?_
    refine J_istore (pc := 41) dX11_goesBest_41 (by decide) rfl ?_
    refine J_iload (pc := 43) dX11_goesBest_43 rfl ?_
    refine J_i2l (pc := 45) dX11_goesBest_45 ?_
    refine J_aload_n (pc := 46) dX11_goesBest_46 rfl ?_
    refine J_iload_n (pc := 47) dX11_goesBest_47 rfl ?_
    refine J_iload_n (pc := 48) dX11_goesBest_48 rfl ?_
    refine J_iconst (pc := 49) (v := 1) dX11_goesBest_49 (by decide) ?_
    refine J_isub (pc := 50) dX11_goesBest_50 ?_
    refine J_t1 (y := nI n) (nI_pred n) ?_
    refine J_iload_n (pc := 51) dX11_goesBest_51 rfl ?_
    refine J_iconst (pc := 52) (v := 2) dX11_goesBest_52 (by decide) ?_
    refine J_idiv (pc := 53) dX11_goesBest_53 (by decide) ?_
    refine J_iconst (pc := 54) (v := 1) dX11_goesBest_54 (by decide) ?_
    refine J_iadd (pc := 55) dX11_goesBest_55 ?_
    refine J_iload (pc := 56) dX11_goesBest_56 rfl ?_
    refine J_iconst (pc := 58) (v := 1) dX11_goesBest_58 (by decide) ?_
    refine J_iadd (pc := 59) dX11_goesBest_59 ?_
    refine J_iload (pc := 60) dX11_goesBest_60 rfl ?_
    refine J_iconst (pc := 62) (v := 1) dX11_goesBest_62 (by decide) ?_
    refine J_iadd (pc := 63) dX11_goesBest_63 ?_
    refine J_cvw (pc := 64) (N := mX11_goesBest) dX11_goesBest_64 ml_X11_365 cf_X11_goesBest cv_X11_goesBest (ih (by omega) _ _ _) rfl rfl (Nat.le_of_ble_eq_true rfl) (by omega) (rv_of (ci := 11) rfl rfl rfl) ?_
    intro T
    refine J_lmul (pc := 67) dX11_goesBest_67 ?_
    refine J_bipush (pc := 68) (v := 16) dX11_goesBest_68 (by decide) ?_
    refine J_iload (pc := 70) dX11_goesBest_70 rfl ?_
    refine J_isub (pc := 72) dX11_goesBest_72 ?_
    refine J_i2l (pc := 73) dX11_goesBest_73 ?_
    refine J_aload_n (pc := 74) dX11_goesBest_74 rfl ?_
    refine J_iload_n (pc := 75) dX11_goesBest_75 rfl ?_
    refine J_iload_n (pc := 76) dX11_goesBest_76 rfl ?_
    refine J_iconst (pc := 77) (v := 1) dX11_goesBest_77 (by decide) ?_
    refine J_isub (pc := 78) dX11_goesBest_78 ?_
    refine J_t1 (y := nI n) (nI_pred n) ?_
    refine J_iload_n (pc := 79) dX11_goesBest_79 rfl ?_
    refine J_iconst (pc := 80) (v := 1) dX11_goesBest_80 (by decide) ?_
    refine J_iadd (pc := 81) dX11_goesBest_81 ?_
    refine J_iload (pc := 82) dX11_goesBest_82 rfl ?_
    refine J_iload (pc := 84) dX11_goesBest_84 rfl ?_
    refine J_iconst (pc := 86) (v := 1) dX11_goesBest_86 (by decide) ?_
    refine J_iadd (pc := 87) dX11_goesBest_87 ?_
    refine J_cvw (pc := 88) (N := mX11_goesBest) dX11_goesBest_88 ml_X11_365 cf_X11_goesBest cv_X11_goesBest (ih (by omega) _ _ _) rfl rfl (Nat.le_of_ble_eq_true rfl) (by omega) (rv_of (ci := 11) rfl rfl rfl) ?_
    intro T
    refine J_lmul (pc := 91) dX11_goesBest_91 ?_
    refine J_ladd (pc := 92) dX11_goesBest_92 ?_
    refine J_lstore (pc := 93) dX11_goesBest_93 (by decide) rfl ?_
    refine J_lload (pc := 95) dX11_goesBest_95 rfl ?_
    refine J_lload (pc := 97) dX11_goesBest_97 rfl ?_
    refine J_lcmp (pc := 99) dX11_goesBest_99 ?_
    refine J_if_le (pc := 100) (tgt := 108) dX11_goesBest_100 (by decide) (fun c100 => ?_) (fun c100 => ?_)
    · refine J_lload (pc := 108) dX11_goesBest_108 rfl ?_
      exact J_lret (pc := 110) rfl rfl dX11_goesBest_110 (rqlw hQ (by first | exact (if_pos (lc_le.mp c100)).symm | exact (if_neg (fun q => c100 (lc_le.mpr q))).symm) rfl)
    · refine J_lload (pc := 103) dX11_goesBest_103 rfl ?_
      refine J_goto (pc := 105) (tgt := 110) dX11_goesBest_105 (by decide) ?_
      exact J_lret (pc := 110) rfl rfl dX11_goesBest_110 (rqlw hQ (by first | exact (if_pos (lc_le.mp c100)).symm | exact (if_neg (fun q => c100 (lc_le.mpr q))).symm) rfl)
theorem r_X11_partOf {g : Gp} {S : Sx} {u l : Nat} {x : Int32} (hu : u < 2 ^ 62) (hl0 : 0 < l) (hl : l < 2 ^ 62) : RT g mX11_partOf 0 [.long (lN u), .long (lN l), .int x] S (some (.long (if x = 0 then lN (u / Nat.gcd l u) else lN (l / Nat.gcd l u)))) S := by
  refine RT_ofQ ⟨rfl, rfl⟩ (Nat.le_of_ble_eq_true rfl) (fun sz Q hQ => ?_)
  refine J_lload_n (pc := 0) dX11_partOf_0 rfl ?_
  refine J_lstore (pc := 1) dX11_partOf_1 (by decide) rfl ?_
  refine J_lload_n (pc := 3) dX11_partOf_3 rfl ?_
  refine J_lstore (pc := 4) dX11_partOf_4 (by decide) rfl ?_
  show J g mX11_partOf 0 [] 6 [some (.long (lN u)), none, some (.long (lN l)), none, some (.int x), some (.long (lN l)), none, some (.long (lN u)), none, none, none] [] (hs S) sz 0 0 Q
  have loop : ∀ b a, 0 < a → a < 2 ^ 62 → b < 2 ^ 62 → Nat.gcd a b = Nat.gcd l u → J g mX11_partOf 0 [] 6 [some (.long (lN u)), none, some (.long (lN l)), none, some (.int x), some (.long (lN a)), none, some (.long (lN b)), none, none, none] [] (hs S) sz 0 0 Q := by
    intro b
    induction b using Nat.strongRecOn with
    | _ b ih =>
      intro a ha0 ha hb hg
      by_cases hb0 : b = 0
      · subst hb0
        rw [Nat.gcd_zero_right] at hg
        rw [← hg] at hQ
        refine J_lload (pc := 6) dX11_partOf_6 rfl ?_
        refine J_lconst (pc := 8) (v := 0) dX11_partOf_8 (by decide) ?_
        refine J_lcmp (pc := 9) dX11_partOf_9 ?_
        refine J_if_eq (pc := 10) (tgt := 31) dX11_partOf_10 (by decide) (fun c10 => ?_) (fun c10 => absurd (lc_eq.mpr rfl) c10)
        refine J_iload (pc := 31) dX11_partOf_31 rfl ?_
        refine J_if_ne (pc := 33) (tgt := 43) dX11_partOf_33 (by decide) (fun c33 => ?_) (fun c33 => ?_)
        · refine J_lload_n (pc := 43) dX11_partOf_43 rfl ?_
          refine J_lload (pc := 44) dX11_partOf_44 rfl ?_
          refine J_ldiv (pc := 46) dX11_partOf_46 (fun q => by have := (pk_lEQ (a := a) (b := 0) (by omega) (by omega)).mp q; omega) ?_
          rw [pk_lDiv (by omega) ha0 (by omega)]
          exact J_lret (pc := 47) rfl rfl dX11_partOf_47 (rql hQ (by first | exact (if_pos c33).symm | exact (if_neg c33).symm) rfl)
        · refine J_lload_n (pc := 36) dX11_partOf_36 rfl ?_
          refine J_lload (pc := 37) dX11_partOf_37 rfl ?_
          refine J_ldiv (pc := 39) dX11_partOf_39 (fun q => by have := (pk_lEQ (a := a) (b := 0) (by omega) (by omega)).mp q; omega) ?_
          rw [pk_lDiv (by omega) ha0 (by omega)]
          refine J_goto (pc := 40) (tgt := 47) dX11_partOf_40 (by decide) ?_
          exact J_lret (pc := 47) rfl rfl dX11_partOf_47 (rql hQ (by first | exact (if_pos c33).symm | exact (if_neg c33).symm) rfl)
      · have hlt := Nat.mod_lt a (show b > 0 by omega)
        refine J_lload (pc := 6) dX11_partOf_6 rfl ?_
        refine J_lconst (pc := 8) (v := 0) dX11_partOf_8 (by decide) ?_
        refine J_lcmp (pc := 9) dX11_partOf_9 ?_
        refine J_if_eq (pc := 10) (tgt := 31) dX11_partOf_10 (by decide) (fun c10 => absurd c10 (fun q => hb0 ((pk_lEQ (by omega) (by omega)).mp (lc_eq.mp q)))) (fun c10 => ?_)
        refine J_lload (pc := 13) dX11_partOf_13 rfl ?_
        refine J_lload (pc := 15) dX11_partOf_15 rfl ?_
        refine J_lrem (pc := 17) dX11_partOf_17 (fun q => by have := (pk_lEQ (a := b) (b := 0) (by omega) (by omega)).mp q; omega) ?_
        rw [pk_lRem (by omega) (by omega) (by omega)]
        refine J_lstore (pc := 18) dX11_partOf_18 (by decide) rfl ?_
        refine J_lload (pc := 20) dX11_partOf_20 rfl ?_
        refine J_lstore (pc := 22) dX11_partOf_22 (by decide) rfl ?_
        refine J_lload (pc := 24) dX11_partOf_24 rfl ?_
        refine J_lstore (pc := 26) dX11_partOf_26 (by decide) rfl ?_
        refine J_goto (pc := 28) (tgt := 6) dX11_partOf_28 (by decide) ?_
        refine J_forget (fun k v hv => ?_) (ih (a % b) hlt b (by omega) hb (by omega) (by rw [Nat.gcd_comm a b, Nat.gcd_rec b a, Nat.gcd_comm] at hg; exact hg))
        rcases k with _ | _ | _ | _ | _ | _ | _ | _ | _ | _ | _ | k <;> first | exact hv | (simp at hv)
  exact loop u l hl0 hl hu rfl
theorem clp_N (x : Int32) : clp x = nI (clp x).toNatClampNeg ∧ (clp x).toNatClampNeg ≤ 99 := by
  have h0 : 0 ≤ (clp x).toInt ∧ (clp x).toInt ≤ 99 := by
    unfold clp
    have e0 : (0 : Int32).toInt = 0 := rfl
    have e9 : (99 : Int32).toInt = 99 := rfl
    by_cases h1 : x < 0
    · rw [if_pos h1, if_neg (by decide)]
      exact ⟨by decide, by decide⟩
    · rw [if_neg h1]
      have h1' : ¬ x.toInt < 0 := fun q => h1 (Int32.lt_iff_toInt_lt.mpr (by rw [e0]; exact q))
      by_cases h2 : 99 < x
      · rw [if_pos h2]
        exact ⟨by decide, by decide⟩
      · rw [if_neg h2]
        have h2' : ¬ 99 < x.toInt := fun q => h2 (Int32.lt_iff_toInt_lt.mpr (by rw [e9]; exact q))
        omega
  have h1 : ¬ clp x < 0 := fun q => by
    have := Int32.lt_iff_toInt_lt.mp q
    have e0 : (0 : Int32).toInt = 0 := rfl
    omega
  obtain ⟨k, hk, e⟩ := nI_of h1
  rw [e] at h0 ⊢
  rw [nI_toInt hk] at h0
  rw [nI_clamp hk]
  exact ⟨rfl, by omega⟩
def TM (S : Sx) (ns : Nat) (tm : Nat → Nat) : Prop := ∀ s, s < ns → sa S 65 s = nI (tm s) ∧ tm s ≤ 15
def gN (P : Int32 → Int32 → Int32 → Nat) (t : Nat) : Nat → Int32 → Int32 → Int32 → Nat
  | 0, dy, lp, dd => P dy lp dd
  | n + 1, dy, lp, dd => max (P dy lp dd * 16 ^ (n + 1)) (t * gN P t n (dy / 2 + 1) (lp + 1) (dd + 1) + (16 - t) * gN P t n (dy + 1) lp (dd + 1))
theorem gN_le {P : Int32 → Int32 → Int32 → Nat} {t : Nat} (hP : ∀ a b c, P a b c ≤ 99) (ht : t ≤ 15) : ∀ n dy lp dd, gN P t n dy lp dd ≤ 99 * 16 ^ n
  | 0, dy, lp, dd => by show P dy lp dd ≤ 99 * 1; have := hP dy lp dd; omega
  | n + 1, dy, lp, dd => by
    show max (P dy lp dd * 16 ^ (n + 1)) _ ≤ _
    have h1 := gN_le hP ht n (dy / 2 + 1) (lp + 1) (dd + 1)
    have h2 := gN_le hP ht n (dy + 1) lp (dd + 1)
    have h3 : P dy lp dd * 16 ^ (n + 1) ≤ 99 * 16 ^ (n + 1) := Nat.mul_le_mul_right _ (hP dy lp dd)
    have h4 := Nat.mul_le_mul_left t h1
    have h5 := Nat.mul_le_mul_left (16 - t) h2
    have h6 : t * (99 * 16 ^ n) + (16 - t) * (99 * 16 ^ n) = 99 * 16 ^ (n + 1) := by
      rw [← Nat.add_mul, show t + (16 - t) = 16 by omega, Nat.pow_succ]
      omega
    exact Nat.max_le.mpr ⟨h3, by omega⟩
set_option maxRecDepth 100000 in
theorem shl_N : ∀ p, p < 100 → ∀ n, n < 13 → (nI p).toInt64 <<< ((4 * nI n).toInt64 &&& 63) = lN (p * 16 ^ n) := by decide +kernel
theorem shl_1 : ∀ n, n < 13 → (1 : Int64) <<< ((4 * nI n).toInt64 &&& 63) = lN (16 ^ n) := by decide +kernel
theorem p16_le {n : Nat} (h : n ≤ 12) : 16 ^ n ≤ 2 ^ 48 := by
  have : ∀ n, n ≤ 12 → 16 ^ n ≤ 2 ^ 48 := by decide
  exact this n h
theorem gbm_N {pw : Int32 → Int32 → Int32 → Int32} {P : Int32 → Int32 → Int32 → Nat} {t : Nat} (hp : ∀ a b c, pw a b c = nI (P a b c)) (hP : ∀ a b c, P a b c ≤ 99) (ht : t ≤ 15) : ∀ n, n ≤ 12 → ∀ dy lp dd, gbm pw (nI t) n dy lp dd = lN (gN P t n dy lp dd)
  | 0, _, dy, lp, dd => by
    have hpp := hP dy lp dd
    show (pw dy lp dd).toInt64 <<< _ = lN (P dy lp dd)
    rw [hp, shl_N _ (by omega) 0 (by omega), Nat.pow_zero, Nat.mul_one]
  | n + 1, hn, dy, lp, dd => by
    have hpp := hP dy lp dd
    have i1 := gbm_N hp hP ht n (by omega) (dy / 2 + 1) (lp + 1) (dd + 1)
    have i2 := gbm_N hp hP ht n (by omega) (dy + 1) lp (dd + 1)
    have b0 := gN_le hP ht (n + 1) dy lp dd
    have b1 := p16_le hn
    have b2 : max (P dy lp dd * 16 ^ (n + 1)) (t * gN P t n (dy / 2 + 1) (lp + 1) (dd + 1) + (16 - t) * gN P t n (dy + 1) lp (dd + 1)) ≤ 99 * 16 ^ (n + 1) := b0
    obtain ⟨b3, b4⟩ := Nat.max_le.mp b2
    have e16 : (16 - nI t : Int32) = nI (16 - t) := pk_sub (a := 16) (by omega)
    show (if (pw dy lp dd).toInt64 <<< ((4 * nI (n + 1)).toInt64 &&& 63) ≤ (nI t).toInt64 * gbm pw (nI t) n (dy / 2 + 1) (lp + 1) (dd + 1) + (16 - nI t).toInt64 * gbm pw (nI t) n (dy + 1) lp (dd + 1) then (nI t).toInt64 * gbm pw (nI t) n (dy / 2 + 1) (lp + 1) (dd + 1) + (16 - nI t).toInt64 * gbm pw (nI t) n (dy + 1) lp (dd + 1) else (pw dy lp dd).toInt64 <<< ((4 * nI (n + 1)).toInt64 &&& 63)) = lN (max (P dy lp dd * 16 ^ (n + 1)) (t * gN P t n (dy / 2 + 1) (lp + 1) (dd + 1) + (16 - t) * gN P t n (dy + 1) lp (dd + 1)))
    rw [i1, i2, hp, e16, shl_N _ (by omega) (n + 1) (by omega), nI_l (by omega), nI_l (by omega), lN_mul, lN_mul, lN_add]
    by_cases q : P dy lp dd * 16 ^ (n + 1) ≤ t * gN P t n (dy / 2 + 1) (lp + 1) (dd + 1) + (16 - t) * gN P t n (dy + 1) lp (dd + 1)
    · rw [if_pos ((pk_lLE (by omega) (by omega)).mpr q), Nat.max_eq_right q]
    · rw [if_neg (fun z => q ((pk_lLE (by omega) (by omega)).mp z)), Nat.max_eq_left (by omega)]
/-- the mean of the best, in parts of 16^n -/
def bsN (S : Sx) (nr : Nat) (ow tm : Nat → Nat) (m : Nat) (wv : Nat → Nat × Nat) (r n : Nat) : Nat := gN (fun a b c => (mpo S 535 nr ow m wv r a b c).toNatClampNeg) (tm (ow r)) n (sa S 535 (16 + r)) (sa S 535 (8 + ow r)) (sa S 535 44)
theorem r_X11_best_e1 {g : Gp} {S : Sx} {x y z : Int32} {ns nr np : Nat} {ow : Nat → Nat} (hH : MH S ns nr np ow) (hv : ¬ (0 ≤ x ∧ x ≤ nI nr - 1)) : RT g mX11_best 2 [.ref 59, .int x, .int y, .int z] S (some (.long 0)) (er S 1 0) := by
  refine RT_ofQ ⟨rfl, rfl⟩ (Nat.le_of_ble_eq_true rfl) (fun sz Q hQ => ?_)
  refine J_aload_n (pc := 0) dX11_best_0 rfl ?_
  refine J_iconst (pc := 1) (v := 0) dX11_best_1 (by decide) ?_
  refine J_puti (pc := 2) dX11_best_2 kc11 fl_X11_103 rfl ⟨rfl, rfl⟩ ?_
  refine J_aload_n (pc := 5) dX11_best_5 rfl ?_
  refine J_aload_n (pc := 6) dX11_best_6 rfl ?_
  refine J_iload_n (pc := 7) dX11_best_7 rfl ?_
  refine J_cvr (pc := 8) (N := mX11_isRelic) dX11_best_8 ml_X11_339 cf_X11_isRelic cv_X11_isRelic (r_X11_isRelic (S := S0 S) hH) rfl rfl (Nat.le_of_ble_eq_true rfl) (by decide) (rv_of (ci := 11) rfl rfl rfl) ?_
  refine J_ifp_ne (pc := 11) (tgt := 18) dX11_best_11 (by decide) (fun c11 => absurd c11 hv) (fun c11 => ?_)
  refine J_iconst (pc := 14) (v := 1) dX11_best_14 (by decide) ?_
  refine J_goto (pc := 15) (tgt := 19) dX11_best_15 (by decide) ?_
  refine J_iconst (pc := 19) (v := 1) dX11_best_19 (by decide) ?_
  refine J_iconst (pc := 20) (v := 0) dX11_best_20 (by decide) ?_
  refine J_cvr (pc := 21) (N := mX11_bad) dX11_best_21 ml_X11_183 cf_X11_bad cv_X11_bad (r_X11_bad_t (k := 0) rfl (by decide) (by decide) rfl) rfl rfl (Nat.le_of_ble_eq_true rfl) (by decide) (rv_of (ci := 11) rfl rfl rfl) ?_
  refine J_if_ne (pc := 24) (tgt := 60) dX11_best_24 (by decide) (fun c24 => ?_) (fun c24 => absurd c24 (by decide))
  refine J_lconst (pc := 60) (v := 0) dX11_best_60 (by decide) ?_
  exact J_lret (pc := 61) rfl rfl dX11_best_61 (rql hQ rfl rfl)
theorem r_X11_best_e2 {g : Gp} {S : Sx} {x y z : Int32} {ns nr np : Nat} {ow : Nat → Nat} (hH : MH S ns nr np ow) (hv : 0 ≤ x ∧ x ≤ nI nr - 1) (hv2 : ¬ ((0 ≤ y ∧ y ≤ 6) ∧ (0 ≤ z ∧ z ≤ 1))) : RT g mX11_best 2 [.ref 59, .int x, .int y, .int z] S (some (.long 0)) (er S 2 1) := by
  refine RT_ofQ ⟨rfl, rfl⟩ (Nat.le_of_ble_eq_true rfl) (fun sz Q hQ => ?_)
  refine J_aload_n (pc := 0) dX11_best_0 rfl ?_
  refine J_iconst (pc := 1) (v := 0) dX11_best_1 (by decide) ?_
  refine J_puti (pc := 2) dX11_best_2 kc11 fl_X11_103 rfl ⟨rfl, rfl⟩ ?_
  refine J_aload_n (pc := 5) dX11_best_5 rfl ?_
  refine J_aload_n (pc := 6) dX11_best_6 rfl ?_
  refine J_iload_n (pc := 7) dX11_best_7 rfl ?_
  refine J_cvr (pc := 8) (N := mX11_isRelic) dX11_best_8 ml_X11_339 cf_X11_isRelic cv_X11_isRelic (r_X11_isRelic (S := S0 S) hH) rfl rfl (Nat.le_of_ble_eq_true rfl) (by decide) (rv_of (ci := 11) rfl rfl rfl) ?_
  refine J_ifp_ne (pc := 11) (tgt := 18) dX11_best_11 (by decide) (fun c11 => ?_) (fun c11 => absurd hv c11)
  refine J_iconst (pc := 18) (v := 0) dX11_best_18 (by decide) ?_
  refine J_iconst (pc := 19) (v := 1) dX11_best_19 (by decide) ?_
  refine J_iconst (pc := 20) (v := 0) dX11_best_20 (by decide) ?_
  refine J_cvr (pc := 21) (N := mX11_bad) dX11_best_21 ml_X11_183 cf_X11_bad cv_X11_bad (r_X11_bad_f rfl) rfl rfl (Nat.le_of_ble_eq_true rfl) (by decide) (rv_of (ci := 11) rfl rfl rfl) ?_
  refine J_if_ne (pc := 24) (tgt := 60) dX11_best_24 (by decide) (fun c24 => absurd rfl c24) (fun c24 => ?_)
  refine J_aload_n (pc := 27) dX11_best_27 rfl ?_
  refine J_iload_n (pc := 28) dX11_best_28 rfl ?_
  refine J_iconst (pc := 29) (v := 0) dX11_best_29 (by decide) ?_
  refine J_bipush (pc := 30) (v := 6) dX11_best_30 (by decide) ?_
  refine J_csr (pc := 32) (N := mX11_in) dX11_best_32 ml_X11_137 cf_X11_in cs_X11_in r_X11_in rfl rfl (Nat.le_of_ble_eq_true rfl) (by decide) ?_
  refine J_ifp_eq (pc := 35) (tgt := 47) dX11_best_35 (by decide) (fun c35 => ?_) (fun c35 => ?_)
  · refine J_iconst (pc := 47) (v := 1) dX11_best_47 (by decide) ?_
    refine J_goto (pc := 48) (tgt := 52) dX11_best_48 (by decide) ?_
    refine J_iconst (pc := 52) (v := 2) dX11_best_52 (by decide) ?_
    refine J_iconst (pc := 53) (v := 1) dX11_best_53 (by decide) ?_
    refine J_cvr (pc := 54) (N := mX11_bad) dX11_best_54 ml_X11_183 cf_X11_bad cv_X11_bad (r_X11_bad_t (k := 1) rfl (by decide) (by decide) rfl) rfl rfl (Nat.le_of_ble_eq_true rfl) (by decide) (rv_of (ci := 11) rfl rfl rfl) ?_
    refine J_if_eq (pc := 57) (tgt := 62) dX11_best_57 (by decide) (fun c57 => absurd c57 (by decide)) (fun c57 => ?_)
    refine J_lconst (pc := 60) (v := 0) dX11_best_60 (by decide) ?_
    exact J_lret (pc := 61) rfl rfl dX11_best_61 (rql hQ rfl rfl)
  · refine J_iload_n (pc := 38) dX11_best_38 rfl ?_
    refine J_iconst (pc := 39) (v := 0) dX11_best_39 (by decide) ?_
    refine J_iconst (pc := 40) (v := 1) dX11_best_40 (by decide) ?_
    refine J_csr (pc := 41) (N := mX11_in) dX11_best_41 ml_X11_137 cf_X11_in cs_X11_in r_X11_in rfl rfl (Nat.le_of_ble_eq_true rfl) (by decide) ?_
    refine J_ifp_ne (pc := 44) (tgt := 51) dX11_best_44 (by decide) (fun c44 => absurd (And.intro c35 c44) hv2) (fun c44 => ?_)
    refine J_iconst (pc := 47) (v := 1) dX11_best_47 (by decide) ?_
    refine J_goto (pc := 48) (tgt := 52) dX11_best_48 (by decide) ?_
    refine J_iconst (pc := 52) (v := 2) dX11_best_52 (by decide) ?_
    refine J_iconst (pc := 53) (v := 1) dX11_best_53 (by decide) ?_
    refine J_cvr (pc := 54) (N := mX11_bad) dX11_best_54 ml_X11_183 cf_X11_bad cv_X11_bad (r_X11_bad_t (k := 1) rfl (by decide) (by decide) rfl) rfl rfl (Nat.le_of_ble_eq_true rfl) (by decide) (rv_of (ci := 11) rfl rfl rfl) ?_
    refine J_if_eq (pc := 57) (tgt := 62) dX11_best_57 (by decide) (fun c57 => absurd c57 (by decide)) (fun c57 => ?_)
    refine J_lconst (pc := 60) (v := 0) dX11_best_60 (by decide) ?_
    exact J_lret (pc := 61) rfl rfl dX11_best_61 (rql hQ rfl rfl)
theorem r_X11_without_e1 {g : Gp} {S : Sx} {x y z : Int32} {ns nr np : Nat} {ow : Nat → Nat} (hH : MH S ns nr np ow) (hv : ¬ (0 ≤ x ∧ x ≤ nI ns - 1)) : RT g mX11_without 2 [.ref 59, .int x, .int y, .int z] S (some (.long 0)) (er S 1 0) := by
  refine RT_ofQ ⟨rfl, rfl⟩ (Nat.le_of_ble_eq_true rfl) (fun sz Q hQ => ?_)
  refine J_aload_n (pc := 0) dX11_without_0 rfl ?_
  refine J_iconst (pc := 1) (v := 0) dX11_without_1 (by decide) ?_
  refine J_puti (pc := 2) dX11_without_2 kc11 fl_X11_103 rfl ⟨rfl, rfl⟩ ?_
  refine J_aload_n (pc := 5) dX11_without_5 rfl ?_
  refine J_aload_n (pc := 6) dX11_without_6 rfl ?_
  refine J_iload_n (pc := 7) dX11_without_7 rfl ?_
  refine J_cvr (pc := 8) (N := mX11_isSister) dX11_without_8 ml_X11_336 cf_X11_isSister cv_X11_isSister (r_X11_isSister (S := S0 S) hH) rfl rfl (Nat.le_of_ble_eq_true rfl) (by decide) (rv_of (ci := 11) rfl rfl rfl) ?_
  refine J_ifp_ne (pc := 11) (tgt := 18) dX11_without_11 (by decide) (fun c11 => absurd c11 hv) (fun c11 => ?_)
  refine J_iconst (pc := 14) (v := 1) dX11_without_14 (by decide) ?_
  refine J_goto (pc := 15) (tgt := 19) dX11_without_15 (by decide) ?_
  refine J_iconst (pc := 19) (v := 1) dX11_without_19 (by decide) ?_
  refine J_iconst (pc := 20) (v := 0) dX11_without_20 (by decide) ?_
  refine J_cvr (pc := 21) (N := mX11_bad) dX11_without_21 ml_X11_183 cf_X11_bad cv_X11_bad (r_X11_bad_t (k := 0) rfl (by decide) (by decide) rfl) rfl rfl (Nat.le_of_ble_eq_true rfl) (by decide) (rv_of (ci := 11) rfl rfl rfl) ?_
  refine J_if_ne (pc := 24) (tgt := 60) dX11_without_24 (by decide) (fun c24 => ?_) (fun c24 => absurd c24 (by decide))
  refine J_lconst (pc := 60) (v := 0) dX11_without_60 (by decide) ?_
  exact J_lret (pc := 61) rfl rfl dX11_without_61 (rql hQ rfl rfl)
theorem r_X11_without_e2 {g : Gp} {S : Sx} {x y z : Int32} {ns nr np : Nat} {ow : Nat → Nat} (hH : MH S ns nr np ow) (hv : 0 ≤ x ∧ x ≤ nI ns - 1) (hv2 : ¬ ((0 ≤ y ∧ y ≤ 12) ∧ (0 ≤ z ∧ z ≤ 1))) : RT g mX11_without 2 [.ref 59, .int x, .int y, .int z] S (some (.long 0)) (er S 2 1) := by
  refine RT_ofQ ⟨rfl, rfl⟩ (Nat.le_of_ble_eq_true rfl) (fun sz Q hQ => ?_)
  refine J_aload_n (pc := 0) dX11_without_0 rfl ?_
  refine J_iconst (pc := 1) (v := 0) dX11_without_1 (by decide) ?_
  refine J_puti (pc := 2) dX11_without_2 kc11 fl_X11_103 rfl ⟨rfl, rfl⟩ ?_
  refine J_aload_n (pc := 5) dX11_without_5 rfl ?_
  refine J_aload_n (pc := 6) dX11_without_6 rfl ?_
  refine J_iload_n (pc := 7) dX11_without_7 rfl ?_
  refine J_cvr (pc := 8) (N := mX11_isSister) dX11_without_8 ml_X11_336 cf_X11_isSister cv_X11_isSister (r_X11_isSister (S := S0 S) hH) rfl rfl (Nat.le_of_ble_eq_true rfl) (by decide) (rv_of (ci := 11) rfl rfl rfl) ?_
  refine J_ifp_ne (pc := 11) (tgt := 18) dX11_without_11 (by decide) (fun c11 => ?_) (fun c11 => absurd hv c11)
  refine J_iconst (pc := 18) (v := 0) dX11_without_18 (by decide) ?_
  refine J_iconst (pc := 19) (v := 1) dX11_without_19 (by decide) ?_
  refine J_iconst (pc := 20) (v := 0) dX11_without_20 (by decide) ?_
  refine J_cvr (pc := 21) (N := mX11_bad) dX11_without_21 ml_X11_183 cf_X11_bad cv_X11_bad (r_X11_bad_f rfl) rfl rfl (Nat.le_of_ble_eq_true rfl) (by decide) (rv_of (ci := 11) rfl rfl rfl) ?_
  refine J_if_ne (pc := 24) (tgt := 60) dX11_without_24 (by decide) (fun c24 => absurd rfl c24) (fun c24 => ?_)
  refine J_aload_n (pc := 27) dX11_without_27 rfl ?_
  refine J_iload_n (pc := 28) dX11_without_28 rfl ?_
  refine J_iconst (pc := 29) (v := 0) dX11_without_29 (by decide) ?_
  refine J_bipush (pc := 30) (v := 12) dX11_without_30 (by decide) ?_
  refine J_csr (pc := 32) (N := mX11_in) dX11_without_32 ml_X11_137 cf_X11_in cs_X11_in r_X11_in rfl rfl (Nat.le_of_ble_eq_true rfl) (by decide) ?_
  refine J_ifp_eq (pc := 35) (tgt := 47) dX11_without_35 (by decide) (fun c35 => ?_) (fun c35 => ?_)
  · refine J_iconst (pc := 47) (v := 1) dX11_without_47 (by decide) ?_
    refine J_goto (pc := 48) (tgt := 52) dX11_without_48 (by decide) ?_
    refine J_iconst (pc := 52) (v := 2) dX11_without_52 (by decide) ?_
    refine J_iconst (pc := 53) (v := 1) dX11_without_53 (by decide) ?_
    refine J_cvr (pc := 54) (N := mX11_bad) dX11_without_54 ml_X11_183 cf_X11_bad cv_X11_bad (r_X11_bad_t (k := 1) rfl (by decide) (by decide) rfl) rfl rfl (Nat.le_of_ble_eq_true rfl) (by decide) (rv_of (ci := 11) rfl rfl rfl) ?_
    refine J_if_eq (pc := 57) (tgt := 62) dX11_without_57 (by decide) (fun c57 => absurd c57 (by decide)) (fun c57 => ?_)
    refine J_lconst (pc := 60) (v := 0) dX11_without_60 (by decide) ?_
    exact J_lret (pc := 61) rfl rfl dX11_without_61 (rql hQ rfl rfl)
  · refine J_iload_n (pc := 38) dX11_without_38 rfl ?_
    refine J_iconst (pc := 39) (v := 0) dX11_without_39 (by decide) ?_
    refine J_iconst (pc := 40) (v := 1) dX11_without_40 (by decide) ?_
    refine J_csr (pc := 41) (N := mX11_in) dX11_without_41 ml_X11_137 cf_X11_in cs_X11_in r_X11_in rfl rfl (Nat.le_of_ble_eq_true rfl) (by decide) ?_
    refine J_ifp_ne (pc := 44) (tgt := 51) dX11_without_44 (by decide) (fun c44 => absurd (And.intro c35 c44) hv2) (fun c44 => ?_)
    refine J_iconst (pc := 47) (v := 1) dX11_without_47 (by decide) ?_
    refine J_goto (pc := 48) (tgt := 52) dX11_without_48 (by decide) ?_
    refine J_iconst (pc := 52) (v := 2) dX11_without_52 (by decide) ?_
    refine J_iconst (pc := 53) (v := 1) dX11_without_53 (by decide) ?_
    refine J_cvr (pc := 54) (N := mX11_bad) dX11_without_54 ml_X11_183 cf_X11_bad cv_X11_bad (r_X11_bad_t (k := 1) rfl (by decide) (by decide) rfl) rfl rfl (Nat.le_of_ble_eq_true rfl) (by decide) (rv_of (ci := 11) rfl rfl rfl) ?_
    refine J_if_eq (pc := 57) (tgt := 62) dX11_without_57 (by decide) (fun c57 => absurd c57 (by decide)) (fun c57 => ?_)
    refine J_lconst (pc := 60) (v := 0) dX11_without_60 (by decide) ?_
    exact J_lret (pc := 61) rfl rfl dX11_without_61 (rql hQ rfl rfl)
theorem r_X11_best_no {g : Gp} {S : Sx} {r n : Nat} {z : Int32} {ns nr np : Nat} {ow : Nat → Nat} (hH : MH S ns nr np ow) (hr : r < nr) (hn : n ≤ 6) (hz : 0 ≤ z ∧ z ≤ 1) (hk : sa S 535 (16 + r) = -1) : RT g mX11_best 2 [.ref 59, .int (nI r), .int (nI n), .int z] S (some (.long z.toInt64)) (S0 S) := by
  refine RT_ofQ ⟨rfl, rfl⟩ (Nat.le_of_ble_eq_true rfl) (fun sz Q hQ => ?_)
  have hH' := hH
  obtain ⟨e0, e1, e2, l0, l1, l2, ho⟩ := hH'
  have hxx := inx hr (show nr < 100 by omega)
  refine J_aload_n (pc := 0) dX11_best_0 rfl ?_
  refine J_iconst (pc := 1) (v := 0) dX11_best_1 (by decide) ?_
  refine J_puti (pc := 2) dX11_best_2 kc11 fl_X11_103 rfl ⟨rfl, rfl⟩ ?_
  refine J_aload_n (pc := 5) dX11_best_5 rfl ?_
  refine J_aload_n (pc := 6) dX11_best_6 rfl ?_
  refine J_iload_n (pc := 7) dX11_best_7 rfl ?_
  refine J_cvr (pc := 8) (N := mX11_isRelic) dX11_best_8 ml_X11_339 cf_X11_isRelic cv_X11_isRelic (r_X11_isRelic (S := S0 S) hH) rfl rfl (Nat.le_of_ble_eq_true rfl) (by decide) (rv_of (ci := 11) rfl rfl rfl) ?_
  refine J_ifp_ne (pc := 11) (tgt := 18) dX11_best_11 (by decide) (fun c11 => ?_) (fun c11 => absurd hxx c11)
  refine J_iconst (pc := 18) (v := 0) dX11_best_18 (by decide) ?_
  refine J_iconst (pc := 19) (v := 1) dX11_best_19 (by decide) ?_
  refine J_iconst (pc := 20) (v := 0) dX11_best_20 (by decide) ?_
  refine J_cvr (pc := 21) (N := mX11_bad) dX11_best_21 ml_X11_183 cf_X11_bad cv_X11_bad (r_X11_bad_f rfl) rfl rfl (Nat.le_of_ble_eq_true rfl) (by decide) (rv_of (ci := 11) rfl rfl rfl) ?_
  refine J_if_ne (pc := 24) (tgt := 60) dX11_best_24 (by decide) (fun c24 => absurd rfl c24) (fun c24 => ?_)
  refine J_aload_n (pc := 27) dX11_best_27 rfl ?_
  refine J_iload_n (pc := 28) dX11_best_28 rfl ?_
  refine J_iconst (pc := 29) (v := 0) dX11_best_29 (by decide) ?_
  refine J_bipush (pc := 30) (v := 6) dX11_best_30 (by decide) ?_
  refine J_csr (pc := 32) (N := mX11_in) dX11_best_32 ml_X11_137 cf_X11_in cs_X11_in r_X11_in rfl rfl (Nat.le_of_ble_eq_true rfl) (by decide) ?_
  refine J_ifp_eq (pc := 35) (tgt := 47) dX11_best_35 (by decide) (fun c35 => absurd (inw 6 rfl hn (by decide)) c35) (fun c35 => ?_)
  refine J_iload_n (pc := 38) dX11_best_38 rfl ?_
  refine J_iconst (pc := 39) (v := 0) dX11_best_39 (by decide) ?_
  refine J_iconst (pc := 40) (v := 1) dX11_best_40 (by decide) ?_
  refine J_csr (pc := 41) (N := mX11_in) dX11_best_41 ml_X11_137 cf_X11_in cs_X11_in r_X11_in rfl rfl (Nat.le_of_ble_eq_true rfl) (by decide) ?_
  refine J_ifp_ne (pc := 44) (tgt := 51) dX11_best_44 (by decide) (fun c44 => ?_) (fun c44 => absurd hz c44)
  refine J_iconst (pc := 51) (v := 0) dX11_best_51 (by decide) ?_
  refine J_iconst (pc := 52) (v := 2) dX11_best_52 (by decide) ?_
  refine J_iconst (pc := 53) (v := 1) dX11_best_53 (by decide) ?_
  refine J_cvr (pc := 54) (N := mX11_bad) dX11_best_54 ml_X11_183 cf_X11_bad cv_X11_bad (r_X11_bad_f rfl) rfl rfl (Nat.le_of_ble_eq_true rfl) (by decide) (rv_of (ci := 11) rfl rfl rfl) ?_
  refine J_if_eq (pc := 57) (tgt := 62) dX11_best_57 (by decide) (fun c57 => ?_) (fun c57 => absurd rfl c57)
  refine J_aload_n (pc := 62) dX11_best_62 rfl ?_
  refine J_getr (pc := 63) dX11_best_63 kc11 fl_X11_73 rfl ?_
  refine J_iload_n (pc := 66) dX11_best_66 rfl ?_
  refine J_csr (pc := 67) (N := mX11_isKept) dX11_best_67 ml_X11_267 cf_X11_isKept cs_X11_isKept (r_X11_isKept (S := S0 S) row535 (by omega)) rfl rfl (Nat.le_of_ble_eq_true rfl) (by decide) ?_
  refine J_ifp_ne (pc := 70) (tgt := 76) dX11_best_70 (by decide) (fun c70 => absurd hk c70) (fun c70 => ?_)
  refine J_iload_n (pc := 73) dX11_best_73 rfl ?_
  refine J_i2l (pc := 74) dX11_best_74 ?_
  exact J_lret (pc := 75) rfl rfl dX11_best_75 (rql hQ rfl rfl)
theorem r_X11_best {g : Gp} {S : Sx} {r n : Nat} {z : Int32} {ns nr np m : Nat} {ow tm : Nat → Nat} {wv : Nat → Nat × Nat} (hH : MH S ns nr np ow) (hT : TM S ns tm) (hW : LawW m wv) (hM : LawM S m wv) (hr : r < nr) (hn : n ≤ 6) (hz : 0 ≤ z ∧ z ≤ 1) (hk : ¬ sa S 535 (16 + r) = -1) : RW g mX11_best 12 [.ref 59, .int (nI r), .int (nI n), .int z] S (some (.long (if z = 0 then lN (bsN S nr ow tm m wv r n / Nat.gcd (16 ^ n) (bsN S nr ow tm m wv r n)) else lN (16 ^ n / Nat.gcd (16 ^ n) (bsN S nr ow tm m wv r n))))) (S0 S) := by
  refine RW_ofQ ⟨rfl, rfl⟩ (Nat.le_of_ble_eq_true rfl) (fun T sz Q hQ => ?_)
  have hH' := hH
  obtain ⟨e0, e1, e2, l0, l1, l2, ho⟩ := hH'
  obtain ⟨o1, o2⟩ := ho r hr
  have hxx := inx hr (show nr < 100 by omega)
  obtain ⟨t1, t2⟩ := hT (ow r) o2
  have hle := gN_le (P := fun a b c => (mpo S 535 nr ow m wv r a b c).toNatClampNeg) (fun a b c => (clp_N _).2) t2 n (sa S 535 (16 + r)) (sa S 535 (8 + ow r)) (sa S 535 44)
  have hgb : gbm (mpo S 535 nr ow m wv r) (sa S 65 (ow r)) n (sa S 535 (16 + r)) (sa S 535 (8 + ow r)) (sa S 535 44) = lN (bsN S nr ow tm m wv r n) := by rw [t1]; exact gbm_N (fun a b c => (clp_N _).1) (fun a b c => (clp_N _).2) t2 n (by omega) _ _ _
  have hp16 := p16_le (show n ≤ 12 by omega)
  have hp0 : 0 < 16 ^ n := Nat.pow_pos (by decide)
  have hle' : bsN S nr ow tm m wv r n ≤ 99 * 16 ^ n := hle
  refine J_aload_n (pc := 0) dX11_best_0 rfl ?_
  refine J_iconst (pc := 1) (v := 0) dX11_best_1 (by decide) ?_
  refine J_putiw (pc := 2) dX11_best_2 kc11 fl_X11_103 rfl ⟨rfl, rfl⟩ ?_
  refine J_aload_n (pc := 5) dX11_best_5 rfl ?_
  refine J_aload_n (pc := 6) dX11_best_6 rfl ?_
  refine J_iload_n (pc := 7) dX11_best_7 rfl ?_
  refine J_cvr (pc := 8) (N := mX11_isRelic) dX11_best_8 ml_X11_339 cf_X11_isRelic cv_X11_isRelic (r_X11_isRelic (S := w1 (S0 S) T) hH) rfl rfl (Nat.le_of_ble_eq_true rfl) (by decide) (rv_of (ci := 11) rfl rfl rfl) ?_
  refine J_ifp_ne (pc := 11) (tgt := 18) dX11_best_11 (by decide) (fun c11 => ?_) (fun c11 => absurd hxx c11)
  refine J_iconst (pc := 18) (v := 0) dX11_best_18 (by decide) ?_
  refine J_iconst (pc := 19) (v := 1) dX11_best_19 (by decide) ?_
  refine J_iconst (pc := 20) (v := 0) dX11_best_20 (by decide) ?_
  refine J_cvr (pc := 21) (N := mX11_bad) dX11_best_21 ml_X11_183 cf_X11_bad cv_X11_bad (r_X11_bad_f rfl) rfl rfl (Nat.le_of_ble_eq_true rfl) (by decide) (rv_of (ci := 11) rfl rfl rfl) ?_
  refine J_if_ne (pc := 24) (tgt := 60) dX11_best_24 (by decide) (fun c24 => absurd rfl c24) (fun c24 => ?_)
  refine J_aload_n (pc := 27) dX11_best_27 rfl ?_
  refine J_iload_n (pc := 28) dX11_best_28 rfl ?_
  refine J_iconst (pc := 29) (v := 0) dX11_best_29 (by decide) ?_
  refine J_bipush (pc := 30) (v := 6) dX11_best_30 (by decide) ?_
  refine J_csr (pc := 32) (N := mX11_in) dX11_best_32 ml_X11_137 cf_X11_in cs_X11_in r_X11_in rfl rfl (Nat.le_of_ble_eq_true rfl) (by decide) ?_
  refine J_ifp_eq (pc := 35) (tgt := 47) dX11_best_35 (by decide) (fun c35 => absurd (inw 6 rfl hn (by decide)) c35) (fun c35 => ?_)
  refine J_iload_n (pc := 38) dX11_best_38 rfl ?_
  refine J_iconst (pc := 39) (v := 0) dX11_best_39 (by decide) ?_
  refine J_iconst (pc := 40) (v := 1) dX11_best_40 (by decide) ?_
  refine J_csr (pc := 41) (N := mX11_in) dX11_best_41 ml_X11_137 cf_X11_in cs_X11_in r_X11_in rfl rfl (Nat.le_of_ble_eq_true rfl) (by decide) ?_
  refine J_ifp_ne (pc := 44) (tgt := 51) dX11_best_44 (by decide) (fun c44 => ?_) (fun c44 => absurd hz c44)
  refine J_iconst (pc := 51) (v := 0) dX11_best_51 (by decide) ?_
  refine J_iconst (pc := 52) (v := 2) dX11_best_52 (by decide) ?_
  refine J_iconst (pc := 53) (v := 1) dX11_best_53 (by decide) ?_
  refine J_cvr (pc := 54) (N := mX11_bad) dX11_best_54 ml_X11_183 cf_X11_bad cv_X11_bad (r_X11_bad_f rfl) rfl rfl (Nat.le_of_ble_eq_true rfl) (by decide) (rv_of (ci := 11) rfl rfl rfl) ?_
  refine J_if_eq (pc := 57) (tgt := 62) dX11_best_57 (by decide) (fun c57 => ?_) (fun c57 => absurd rfl c57)
  refine J_aload_n (pc := 62) dX11_best_62 rfl ?_
  refine J_getr (pc := 63) dX11_best_63 kc11 fl_X11_73 rfl ?_
  refine J_iload_n (pc := 66) dX11_best_66 rfl ?_
  refine J_csr (pc := 67) (N := mX11_isKept) dX11_best_67 ml_X11_267 cf_X11_isKept cs_X11_isKept (r_X11_isKept (S := w1 (S0 S) T) row535 (by omega)) rfl rfl (Nat.le_of_ble_eq_true rfl) (by decide) ?_
  refine J_ifp_ne (pc := 70) (tgt := 76) dX11_best_70 (by decide) (fun c70 => ?_) (fun c70 => absurd hk c70)
  refine J_aload_n (pc := 76) dX11_best_76 rfl ?_
  refine J_iload_n (pc := 77) dX11_best_77 rfl ?_
  refine J_iload_n (pc := 78) dX11_best_78 rfl ?_
  refine J_aload_n (pc := 79) dX11_best_79 rfl ?_
  refine J_getr (pc := 80) dX11_best_80 kc11 fl_X11_73 rfl ?_
  refine J_bipush (pc := 83) (v := 16) dX11_best_83 (by decide) ?_
  refine J_iload_n (pc := 85) dX11_best_85 rfl ?_
  refine J_iadd (pc := 86) dX11_best_86 ?_
  refine J_il (pc := 87) dX11_best_87 (by first | rfl | assumption) (by first | exact nI_add 16 _ | (rw [ix_nI]; exact nI_add 16 _)) ⟨by first | decide | omega, by decide⟩ ?_
  refine J_aload_n (pc := 88) dX11_best_88 rfl ?_
  refine J_getr (pc := 89) dX11_best_89 kc11 fl_X11_73 rfl ?_
  refine J_bipush (pc := 92) (v := 8) dX11_best_92 (by decide) ?_
  refine J_aload_n (pc := 94) dX11_best_94 rfl ?_
  refine J_getr (pc := 95) dX11_best_95 kc11 fl_X11_43 rfl ?_
  refine J_iload_n (pc := 98) dX11_best_98 rfl ?_
  refine J_ar1 (pc := 99) dX11_best_99 rfl (by first | with_reducible rfl | assumption | exact ix_nI _ | rfl) ⟨by first | decide | omega, by decide⟩ ?_
  refine J_iconst (pc := 100) (v := 0) dX11_best_100 (by decide) ?_
  refine J_il (pc := 101) dX11_best_101 (lay_relic (by omega)) (rfl : (0 : Int32) = nI 0) ⟨by first | decide | omega, by decide⟩ ?_
  refine J_t1 (y := nI (ow r)) o1 ?_
  refine J_iadd (pc := 102) dX11_best_102 ?_
  refine J_il (pc := 103) dX11_best_103 (by first | rfl | assumption) (by first | exact nI_add 8 _ | (rw [ix_nI]; exact nI_add 8 _)) ⟨by first | decide | omega, by decide⟩ ?_
  refine J_aload_n (pc := 104) dX11_best_104 rfl ?_
  refine J_getr (pc := 105) dX11_best_105 kc11 fl_X11_73 rfl ?_
  refine J_bipush (pc := 108) (v := 44) dX11_best_108 (by decide) ?_
  refine J_il (pc := 110) dX11_best_110 (by first | rfl | assumption) (rfl : (44 : Int32) = nI 44) ⟨by first | decide | omega, by decide⟩ ?_
  refine J_cvw (pc := 111) (N := mX11_goesBest) dX11_best_111 ml_X11_365 cf_X11_goesBest cv_X11_goesBest (r_X11_goesBest (S := S0 S) hH hW hM hr n (by omega) _ _ _) rfl rfl (Nat.le_of_ble_eq_true rfl) (by omega) (rv_of (ci := 11) rfl rfl rfl) ?_
  intro T
  refine J_lconst (pc := 114) (v := 1) dX11_best_114 (by decide) ?_
  refine J_iconst (pc := 115) (v := 4) dX11_best_115 (by decide) ?_
  refine J_iload_n (pc := 116) dX11_best_116 rfl ?_
  refine J_imul (pc := 117) dX11_best_117 ?_
  refine J_lshl (pc := 118) dX11_best_118 ?_
  refine J_st (st' := [.long (lN (16 ^ n)), .long (lN (bsN S nr ow tm m wv r n))]) (by rw [shl_1 n (by omega), ← hgb]; rfl) ?_
  refine J_iload_n (pc := 119) dX11_best_119 rfl ?_
  refine J_csr (pc := 120) (N := mX11_partOf) dX11_best_120 ml_X11_369 cf_X11_partOf cs_X11_partOf (r_X11_partOf (by omega) hp0 (by omega)) rfl rfl (Nat.le_of_ble_eq_true rfl) (by decide) ?_
  exact J_lret (pc := 123) rfl rfl dX11_best_123 (rqlw hQ rfl rfl)
def pwL (x : Int64) : Nat → Int64
  | 0 => 1
  | n + 1 => pwL x n * x
theorem pwL_N (t : Nat) (ht : t ≤ 16) : ∀ n, pwL (lN t) n = lN (t ^ n)
  | 0 => rfl
  | n + 1 => by show pwL (lN t) n * lN t = _; rw [pwL_N t ht n, lN_mul, Nat.pow_succ]
theorem r_X11_without {g : Gp} {S : Sx} {s n : Nat} {z : Int32} {ns nr np : Nat} {ow tm : Nat → Nat} (hH : MH S ns nr np ow) (hT : TM S ns tm) (hs' : s < ns) (hn : n ≤ 12) (hz : 0 ≤ z ∧ z ≤ 1) : RT g mX11_without 2 [.ref 59, .int (nI s), .int (nI n), .int z] S (some (.long (if z = 0 then lN ((16 - tm s) ^ n / Nat.gcd (16 ^ n) ((16 - tm s) ^ n)) else lN (16 ^ n / Nat.gcd (16 ^ n) ((16 - tm s) ^ n))))) (S0 S) := by
  refine RT_ofQ ⟨rfl, rfl⟩ (Nat.le_of_ble_eq_true rfl) (fun sz Q hQ => ?_)
  have hH' := hH
  obtain ⟨e0, e1, e2, l0, l1, l2, ho⟩ := hH'
  have hxx := inx hs' (show ns < 100 by omega)
  obtain ⟨t1, t2⟩ := hT s hs'
  have hp16 := p16_le hn
  have hp0 : 0 < 16 ^ n := Nat.pow_pos (by decide)
  have hle : (16 - tm s) ^ n ≤ 16 ^ n := Nat.pow_le_pow_left (by omega) n
  refine J_aload_n (pc := 0) dX11_without_0 rfl ?_
  refine J_iconst (pc := 1) (v := 0) dX11_without_1 (by decide) ?_
  refine J_puti (pc := 2) dX11_without_2 kc11 fl_X11_103 rfl ⟨rfl, rfl⟩ ?_
  refine J_aload_n (pc := 5) dX11_without_5 rfl ?_
  refine J_aload_n (pc := 6) dX11_without_6 rfl ?_
  refine J_iload_n (pc := 7) dX11_without_7 rfl ?_
  refine J_cvr (pc := 8) (N := mX11_isSister) dX11_without_8 ml_X11_336 cf_X11_isSister cv_X11_isSister (r_X11_isSister (S := S0 S) hH) rfl rfl (Nat.le_of_ble_eq_true rfl) (by decide) (rv_of (ci := 11) rfl rfl rfl) ?_
  refine J_ifp_ne (pc := 11) (tgt := 18) dX11_without_11 (by decide) (fun c11 => ?_) (fun c11 => absurd hxx c11)
  refine J_iconst (pc := 18) (v := 0) dX11_without_18 (by decide) ?_
  refine J_iconst (pc := 19) (v := 1) dX11_without_19 (by decide) ?_
  refine J_iconst (pc := 20) (v := 0) dX11_without_20 (by decide) ?_
  refine J_cvr (pc := 21) (N := mX11_bad) dX11_without_21 ml_X11_183 cf_X11_bad cv_X11_bad (r_X11_bad_f rfl) rfl rfl (Nat.le_of_ble_eq_true rfl) (by decide) (rv_of (ci := 11) rfl rfl rfl) ?_
  refine J_if_ne (pc := 24) (tgt := 60) dX11_without_24 (by decide) (fun c24 => absurd rfl c24) (fun c24 => ?_)
  refine J_aload_n (pc := 27) dX11_without_27 rfl ?_
  refine J_iload_n (pc := 28) dX11_without_28 rfl ?_
  refine J_iconst (pc := 29) (v := 0) dX11_without_29 (by decide) ?_
  refine J_bipush (pc := 30) (v := 12) dX11_without_30 (by decide) ?_
  refine J_csr (pc := 32) (N := mX11_in) dX11_without_32 ml_X11_137 cf_X11_in cs_X11_in r_X11_in rfl rfl (Nat.le_of_ble_eq_true rfl) (by decide) ?_
  refine J_ifp_eq (pc := 35) (tgt := 47) dX11_without_35 (by decide) (fun c35 => absurd (inw 12 rfl hn (by decide)) c35) (fun c35 => ?_)
  refine J_iload_n (pc := 38) dX11_without_38 rfl ?_
  refine J_iconst (pc := 39) (v := 0) dX11_without_39 (by decide) ?_
  refine J_iconst (pc := 40) (v := 1) dX11_without_40 (by decide) ?_
  refine J_csr (pc := 41) (N := mX11_in) dX11_without_41 ml_X11_137 cf_X11_in cs_X11_in r_X11_in rfl rfl (Nat.le_of_ble_eq_true rfl) (by decide) ?_
  refine J_ifp_ne (pc := 44) (tgt := 51) dX11_without_44 (by decide) (fun c44 => ?_) (fun c44 => absurd hz c44)
  refine J_iconst (pc := 51) (v := 0) dX11_without_51 (by decide) ?_
  refine J_iconst (pc := 52) (v := 2) dX11_without_52 (by decide) ?_
  refine J_iconst (pc := 53) (v := 1) dX11_without_53 (by decide) ?_
  refine J_cvr (pc := 54) (N := mX11_bad) dX11_without_54 ml_X11_183 cf_X11_bad cv_X11_bad (r_X11_bad_f rfl) rfl rfl (Nat.le_of_ble_eq_true rfl) (by decide) (rv_of (ci := 11) rfl rfl rfl) ?_
  refine J_if_eq (pc := 57) (tgt := 62) dX11_without_57 (by decide) (fun c57 => ?_) (fun c57 => absurd rfl c57)
  refine J_lconst (pc := 62) (v := 1) dX11_without_62 (by decide) ?_
  refine J_lstore (pc := 63) dX11_without_63 (by decide) rfl ?_
  refine J_iconst (pc := 65) (v := 0) dX11_without_65 (by decide) ?_
  refine J_istore (pc := 66) dX11_without_66 (by decide) rfl ?_
  show J g mX11_without 2 [] 68 [some (.ref 59), some (.int (nI s)), some (.int (nI n)), some (.int z), some (.long 1), none, some (.int 0)] [] (hs (S0 S)) sz 0 0 Q
  refine dn_ind (n := n) (P := fun i => J g mX11_without 2 [] 68 [some (.ref 59), some (.int (nI s)), some (.int (nI n)), some (.int z), some (.long (pwL (lN (16 - tm s)) i)), none, some (.int (ix i))] [] (hs (S0 S)) sz 0 0 Q) ?_ (fun i hi ih => ?_) 0 (Nat.zero_le _)
  · refine J_iload (pc := 68) dX11_without_68 rfl ?_
    refine J_iload_n (pc := 70) dX11_without_70 rfl ?_
    refine J_icmp_ge (pc := 71) (tgt := 95) dX11_without_71 (by decide) (fun c71 => ?_) (fun c71 => absurd (ix_ge rfl) c71)
    refine J_lload (pc := 95) dX11_without_95 rfl ?_
    refine J_lconst (pc := 97) (v := 1) dX11_without_97 (by decide) ?_
    refine J_iconst (pc := 98) (v := 4) dX11_without_98 (by decide) ?_
    refine J_iload_n (pc := 99) dX11_without_99 rfl ?_
    refine J_imul (pc := 100) dX11_without_100 ?_
    refine J_lshl (pc := 101) dX11_without_101 ?_
    refine J_st (st' := [.long (lN (16 ^ n)), .long (lN ((16 - tm s) ^ n))]) (by rw [shl_1 n (by omega), pwL_N _ (by omega)]) ?_
    refine J_iload_n (pc := 102) dX11_without_102 rfl ?_
    refine J_csr (pc := 103) (N := mX11_partOf) dX11_without_103 ml_X11_369 cf_X11_partOf cs_X11_partOf (r_X11_partOf (by omega) hp0 (by omega)) rfl rfl (Nat.le_of_ble_eq_true rfl) (by decide) ?_
    exact J_lret (pc := 106) rfl rfl dX11_without_106 (rql hQ rfl rfl)
  · refine J_iload (pc := 68) dX11_without_68 rfl ?_
    refine J_iload_n (pc := 70) dX11_without_70 rfl ?_
    refine J_icmp_ge (pc := 71) (tgt := 95) dX11_without_71 (by decide) (fun c71 => absurd c71 (ix_lt rfl hi (by omega))) (fun c71 => ?_)
    refine J_lload (pc := 74) dX11_without_74 rfl ?_
    refine J_bipush (pc := 76) (v := 16) dX11_without_76 (by decide) ?_
    refine J_aload_n (pc := 78) dX11_without_78 rfl ?_
    refine J_getr (pc := 79) dX11_without_79 kc11 fl_X11_29 rfl ?_
    refine J_iload_n (pc := 82) dX11_without_82 rfl ?_
    refine J_il (pc := 83) dX11_without_83 (by first | rfl | assumption) rfl ⟨by first | decide | omega, by decide⟩ ?_
    refine J_isub (pc := 84) dX11_without_84 ?_
    refine J_i2l (pc := 85) dX11_without_85 ?_
    refine J_st (st' := [.long (lN (16 - tm s)), .long (pwL (lN (16 - tm s)) i)]) (by show [Value.long (16 - sa S 65 s).toInt64, _] = _; rw [t1, show (16 - nI (tm s) : Int32) = nI (16 - tm s) from pk_sub (a := 16) (by omega), nI_l (by omega)]) ?_
    refine J_lmul (pc := 86) dX11_without_86 ?_
    refine J_lstore (pc := 87) dX11_without_87 (by decide) rfl ?_
    refine J_iinc (pc := 89) (v := 1) dX11_without_89 rfl (by decide) rfl ?_
    refine J_goto (pc := 92) (tgt := 68) dX11_without_92 (by decide) ?_
    exact ih
