/-! ===== match and matched ===== -/
theorem sA_sA (S : Sx) (a k : Nat) (v w : Int32) : sA (sA S a k v) a k w = sA S a k w := by
  show (sf S, sp S, up2 (up2 (sa S) a k v) a k w, sl S, sx S) = _
  rw [up2_up2]
  rfl
theorem msk_congr {p q : Nat → Bool} : ∀ {n : Nat}, (∀ i, i < n → p i = q i) → msk p n = msk q n
  | 0, _ => rfl
  | n + 1, h => by
    show msk p n ||| (if p n = true then 1 <<< (ix n &&& 31) else 0) = msk q n ||| (if q n = true then 1 <<< (ix n &&& 31) else 0)
    rw [msk_congr (fun i hi => h i (Nat.lt_succ_of_lt hi)), h n (Nat.lt_succ_self n)]
theorem scA80 {r : Nat} (h : r < 10) : scA (80 + r) = false := by
  have : ∀ r, r < 10 → scA (80 + r) = false := by decide
  exact this r h
theorem scA100 {r : Nat} (h : r < 8) : scA (100 + r) = false := by
  have : ∀ r, r < 8 → scA (100 + r) = false := by decide
  exact this r h
theorem off3_mko {S S' : Sx} (h : off3 S S') {nr : Nat} (h10 : nr ≤ 10) (sv : Int32) : mko S' 535 sv nr = mko S 535 sv nr := by
  unfold mko
  refine msk_congr (fun i hi => ?_)
  rw [h.2.2.1 (80 + i) (scA80 (by omega)), h.2.2.1 535 rfl]
theorem off3_mpw {S S' : Sx} (h : off3 S S') {nr : Nat} (h10 : nr ≤ 10) (ow : Nat → Nat) (m : Nat) (wv : Nat → Nat × Nat) {r : Nat} (hr : r < nr) : mpw S' 535 nr ow m wv r = mpw S 535 nr ow m wv r := by
  unfold mpw mpo
  rw [h.2.2.1 (80 + r) (scA80 (by omega)), h.2.2.1 535 rfl, h.2.2.1 65 rfl, off3_mko h h10]
def mcp (S : Sx) (nr : Nat) (ow : Nat → Nat) (m : Nat) (wv : Nat → Nat × Nat) (p r : Nat) : Bool := decide (sa S 535 (36 + p) = -1 ∧ sa S 535 (26 + r) = 0 ∧ sa S (80 + r) 1 = sa S (100 + p) 0 ∧ sa S (100 + p) 1 ≤ mpw S 535 nr ow m wv r)
theorem off3_mcp {S S' : Sx} (h : off3 S S') {nr : Nat} (h10 : nr ≤ 10) (ow : Nat → Nat) (m : Nat) (wv : Nat → Nat × Nat) {p r : Nat} (hp : p < 8) (hr : r < nr) : mcp S' nr ow m wv p r = mcp S nr ow m wv p r := by
  unfold mcp
  rw [h.2.2.1 (80 + r) (scA80 (by omega)), h.2.2.1 (100 + p) (scA100 hp), h.2.2.1 535 rfl, off3_mpw h h10 ow m wv hr]
/-- which relics can cure a pilgrim now -/
def mal (S : Sx) (nr : Nat) (ow : Nat → Nat) (m : Nat) (wv : Nat → Nat × Nat) (p : Nat) : Int32 := msk (mcp S nr ow m wv p) nr
def cuJ (al : Nat → Int32) (np : Nat) : Nat → Int32
  | 0 => 0
  | j + 1 => cuJ al np j + (if al (np - 1 - j) = 0 then 0 else 1)
theorem mlo_congr {f f' : Nat → MS → MS} : ∀ n s, (∀ r s, r < n → f r s = f' r s) → mlo f n s = mlo f' n s
  | 0, _, _ => rfl
  | n + 1, s, h => by
    show f n (mlo f n s) = f' n (mlo f' n s)
    rw [mlo_congr n s (fun r s hr => h r s (Nat.lt_succ_of_lt hr)), h n _ (Nat.lt_succ_self n)]
theorem mfr_congr {al cu al' cu' : Nat → Int32} {nr np : Nat} (ha : ∀ p, p < np → al p = al' p) (hc : ∀ p, p ≤ np → cu p = cu' p) : ∀ n p tk gv s, p + n = np → mfr al cu nr n p tk gv s = mfr al' cu' nr n p tk gv s
  | 0, p, tk, gv, s, h => by
    show (if gv + cu p ≤ s.2.2 then s else _) = (if gv + cu' p ≤ s.2.2 then s else _)
    rw [hc p (by omega)]
  | n + 1, p, tk, gv, s, h => by
    have e : ∀ s, mlo (fun r s => if bit tk (ix r) = true then s else if bit (al p) (ix r) = true then mfr al cu nr n (p + 1) (tk ||| (1 <<< (ix r &&& 31))) (gv + 1) (upd s.1 p (ix r), s.2) else s) nr s = mlo (fun r s => if bit tk (ix r) = true then s else if bit (al' p) (ix r) = true then mfr al' cu' nr n (p + 1) (tk ||| (1 <<< (ix r &&& 31))) (gv + 1) (upd s.1 p (ix r), s.2) else s) nr s := by
      intro s
      refine mlo_congr nr s (fun r s _ => ?_)
      show (if bit tk (ix r) = true then s else if bit (al p) (ix r) = true then _ else s) = (if bit tk (ix r) = true then s else if bit (al' p) (ix r) = true then _ else s)
      rw [ha p (by omega), mfr_congr ha hc n (p + 1) _ _ _ (by omega)]
    show (if gv + cu p ≤ s.2.2 then s else mfr al cu nr n (p + 1) tk gv (upd (mlo _ nr s).1 p (-1), (mlo _ nr s).2)) = (if gv + cu' p ≤ s.2.2 then s else mfr al' cu' nr n (p + 1) tk gv (upd (mlo _ nr s).1 p (-1), (mlo _ nr s).2))
    rw [hc p (by omega), e s, mfr_congr ha hc n (p + 1) _ _ _ (by omega)]
/-- the search's outcome, from what lay in its rows -/
def mtR (S : Sx) (nr np : Nat) (ow : Nat → Nat) (m : Nat) (wv : Nat → Nat × Nat) : MS := mfr (mal S nr ow m wv) (fun p => cuJ (mal S nr ow m wv) np (np - p)) nr np 0 0 0 (sa S 558, sa S 559, -1)
theorem off3_ms {S S' : Sx} (h : off3 S S') (s : MS) : off3 S (msS S' s) := by
  refine ⟨fun a k q => ?_, h.2.1, fun a q => ?_, h.2.2.2⟩
  · have := (off3_F (v := s.2.2) (show off3 S S' from h) (a := 59) (k := 46) rfl).1 a k q
    exact this
  · show (if a = 558 then s.1 else if a = 559 then s.2.1 else sa S' a) = sa S a
    rw [if_neg (fun e => by subst e; cases q), if_neg (fun e => by subst e; cases q)]
    exact h.2.2.1 a q
/-- the rows of the search are laid from pilgrim q on -/
def mtI (S : Sx) (nr np : Nat) (ow : Nat → Nat) (m : Nat) (wv : Nat → Nat × Nat) (q : Nat) (X : Sx) : Prop := off3 S X ∧ (∀ p, q ≤ p → p < np → sa X 560 p = mal S nr ow m wv p) ∧ (∀ p, q ≤ p → p ≤ np → sa X 561 p = cuJ (mal S nr ow m wv) np (np - p)) ∧ sa X 558 = sa S 558 ∧ sa X 559 = sa S 559
theorem mtI_w1 {S X T : Sx} {nr np m q : Nat} {ow : Nat → Nat} {wv : Nat → Nat × Nat} (h : mtI S nr np ow m wv q X) : mtI S nr np ow m wv q (w1 X T) := h
theorem off3_A' {S S' : Sx} (h : off3 S S') {a k : Nat} {v : Int32} (ha : scA a = true) : off3 S (sA S' a k v) := off3_A h ha
theorem mtI_560 {S X : Sx} {nr np m q : Nat} {ow : Nat → Nat} {wv : Nat → Nat × Nat} {v : Int32} (h : mtI S nr np ow m wv (q + 1) X) : mtI S nr np ow m wv (q + 1) (sA X 560 q v) := by
  refine ⟨off3_A h.1 rfl, fun p h1 h2 => ?_, h.2.2.1, h.2.2.2⟩
  show up2 (sa X) 560 q v 560 p = _
  unfold up2
  rw [if_pos rfl, if_neg (by omega)]
  exact h.2.1 p h1 h2
theorem mtI_s {S X : Sx} {nr np m q : Nat} {ow : Nat → Nat} {wv : Nat → Nat × Nat} (h : mtI S nr np ow m wv (q + 1) X) (hq : q < np) (h6 : sa X 560 q = mal S nr ow m wv q) : mtI S nr np ow m wv q (sA X 561 q (sa X 561 (q + 1) + (if sa X 560 q = 0 then 0 else 1))) := by
  refine ⟨off3_A h.1 rfl, fun p h1 h2 => ?_, fun p h1 h2 => ?_, h.2.2.2⟩
  · show sa X 560 p = _
    by_cases e : p = q
    · rw [e, h6]
    · exact h.2.1 p (by omega) h2
  · show up2 (sa X) 561 q _ 561 p = _
    unfold up2
    rw [if_pos rfl]
    by_cases e : p = q
    · rw [if_pos e, e, h.2.2.1 (q + 1) (Nat.le_refl _) (by omega), h6, show np - q = (np - (q + 1)) + 1 by omega]
      show _ = cuJ _ np (np - (q + 1)) + (if mal S nr ow m wv (np - 1 - (np - (q + 1))) = 0 then 0 else 1)
      rw [show np - 1 - (np - (q + 1)) = q by omega]
    · rw [if_neg e]
      exact h.2.2.1 p (by omega) h2
theorem r_X11_matches {g : Gp} {S : Sx} {ns nr np m : Nat} {ow : Nat → Nat} {wv : Nat → Nat × Nat} (hH : MH S ns nr np ow) (hW : LawW m wv) (hM : LawM S m wv) : RU g mX11_matches 10 [.ref 59] S (fun X => off3 S X ∧ sf X 59 46 = (mtR S nr np ow m wv).2.2 ∧ sa X 559 = (mtR S nr np ow m wv).2.1) := by
  refine RU_ofQ ⟨rfl, rfl⟩ (Nat.le_of_ble_eq_true rfl) (fun sz Q hQ => ?_)
  have hH' := hH
  obtain ⟨e0, e1, e2, l0, l1, l2, ho⟩ := hH'
  refine J_aload_n (pc := 0) dX11_matches_0 rfl ?_
  refine J_getr (pc := 1) dX11_matches_1 kc11 fl_X11_94 rfl ?_
  refine J_aload_n (pc := 4) dX11_matches_4 rfl ?_
  refine J_getr (pc := 5) dX11_matches_5 kc11 fl_X11_23 rfl ?_
  refine J_iconst (pc := 8) (v := 2) dX11_matches_8 (by decide) ?_
  refine J_il (pc := 9) dX11_matches_9 (by first | rfl | assumption) (rfl : (2 : Int32) = nI 2) ⟨by first | decide | omega, by decide⟩ ?_
  refine J_t1 e2 ?_
  refine J_iconst (pc := 10) (v := 0) dX11_matches_10 (by decide) ?_
  refine J_is (pc := 11) dX11_matches_11 (by first | rfl | assumption) rfl ⟨by first | decide | omega, by decide⟩ ?_
  refine J_aload_n (pc := 12) dX11_matches_12 rfl ?_
  refine J_getr (pc := 13) dX11_matches_13 kc11 fl_X11_23 rfl ?_
  refine J_iconst (pc := 16) (v := 2) dX11_matches_16 (by decide) ?_
  refine J_il (pc := 17) dX11_matches_17 (by first | rfl | assumption) (rfl : (2 : Int32) = nI 2) ⟨by first | decide | omega, by decide⟩ ?_
  refine J_t1 (y := nI np) e2 ?_
  refine J_iconst (pc := 18) (v := 1) dX11_matches_18 (by decide) ?_
  refine J_isub (pc := 19) dX11_matches_19 ?_
  refine J_t1 (y := nI np + (-1)) (Int32.sub_eq_add_neg _ _) ?_
  refine J_istore_n (pc := 20) dX11_matches_20 (by decide) rfl ?_
  have loop : ∀ q, q ≤ np → ∀ X, mtI S nr np ow m wv q X → J g mX11_matches 10 [] 21 [some (.ref 59), some (.int (nI q + (-1))), none] [] (hs X) sz 0 0 Q := by
    intro q
    induction q with
    | zero =>
      intro _ X hX
      have hHx := off3_MH hX.1 hH
      have hR : mfr (sa X 560) (sa X 561) nr np 0 0 0 (sa X 558, sa X 559, -1) = mtR S nr np ow m wv := by
        rw [hX.2.2.2.1, hX.2.2.2.2]
        exact mfr_congr (fun p hp => hX.2.1 p (Nat.zero_le _) hp) (fun p hp => hX.2.2.1 p (Nat.zero_le _) hp) np 0 0 0 _ (by omega)
      have hms : sF X 59 46 (-1) = msS X (sa X 558, sa X 559, -1) := by
        have : sa X = fun a => if a = 558 then sa X 558 else if a = 559 then sa X 559 else sa X a := by
          funext a
          by_cases e1 : a = 558
          · rw [if_pos e1, e1]
          · by_cases e2 : a = 559
            · rw [if_neg e1, if_pos e2, e2]
            · rw [if_neg e1, if_neg e2]
        show (up2 (sf X) 59 46 (-1), sp X, sa X, sl X, sx X) = (up2 (sf X) 59 46 (-1), sp X, (fun a => if a = 558 then sa X 558 else if a = 559 then sa X 559 else sa X a), sl X, sx X)
        rw [← this]
      refine J_iload_n (pc := 21) dX11_matches_21 rfl ?_
      refine J_if_lt (pc := 22) (tgt := 114) dX11_matches_22 (by decide) (fun c22 => ?_) (fun c22 => absurd (by decide) c22)
      refine J_aload_n (pc := 114) dX11_matches_114 rfl ?_
      refine J_iconst (pc := 115) (v := -1) dX11_matches_115 (by decide) ?_
      refine J_puti (pc := 116) dX11_matches_116 kc11 fl_X11_345 rfl ⟨rfl, rfl⟩ ?_
      refine J_cg2 hms ?_
      refine J_aload_n (pc := 119) dX11_matches_119 rfl ?_
      refine J_iconst (pc := 120) (v := 0) dX11_matches_120 (by decide) ?_
      refine J_iconst (pc := 121) (v := 0) dX11_matches_121 (by decide) ?_
      refine J_iconst (pc := 122) (v := 0) dX11_matches_122 (by decide) ?_
      refine J_st (st' := [.int 0, .int 0, .int (nI 0), .ref 59]) rfl ?_
      refine J_cvv (pc := 123) (N := mX11_matchesFrom) dX11_matches_123 ml_X11_348 cf_X11_matchesFrom cv_X11_matchesFrom (r_X11_matchesFrom (S := X) hHx np 0 0 0 _ (by omega)) rfl rfl (Nat.le_of_ble_eq_true rfl) (by omega) (rv_of (ci := 11) rfl rfl rfl) ?_
      rw [hR]
      exact J_ret (pc := 126) rfl rfl dX11_matches_126 (hQ _ ⟨off3_ms hX.1 _, rfl, rfl⟩)
    | succ q ih =>
      intro hqn X hX
      have ih0 := ih (by omega)
      clear ih
      refine J_cg1 (ls' := [some (.ref 59), some (.int (nI q)), none]) (by rw [pk_m1]) ?_
      refine J_iload_n (pc := 21) dX11_matches_21 rfl ?_
      refine J_if_lt (pc := 22) (tgt := 114) dX11_matches_22 (by decide) (fun c22 => absurd c22 (nI_pos (by omega))) (fun c22 => ?_)
      refine J_aload_n (pc := 25) dX11_matches_25 rfl ?_
      refine J_getr (pc := 26) dX11_matches_26 kc11 fl_X11_91 rfl ?_
      refine J_iload_n (pc := 29) dX11_matches_29 rfl ?_
      refine J_iconst (pc := 30) (v := 0) dX11_matches_30 (by decide) ?_
      refine J_is (pc := 31) dX11_matches_31 (by first | rfl | assumption) rfl ⟨by first | decide | omega, by decide⟩ ?_
      refine J_iconst (pc := 32) (v := 0) dX11_matches_32 (by decide) ?_
      refine J_istore_n (pc := 33) dX11_matches_33 (by decide) rfl ?_
      show J g mX11_matches 10 [] 34 [some (.ref 59), some (.int (nI q)), some (.int (ix 0))] [] (hs (w1 (sA X 560 q (msk (mcp S nr ow m wv q) 0)) X)) sz 0 0 Q
      refine dn_ind (n := nr) (P := fun i => ∀ T, J g mX11_matches 10 [] 34 [some (.ref 59), some (.int (nI q)), some (.int (ix i))] [] (hs (w1 (sA X 560 q (msk (mcp S nr ow m wv q) i)) T)) sz 0 0 Q) ?_ (fun i hi ih => ?_) 0 (Nat.zero_le _) _
      · intro T
        have hz : ∀ v, mtI S nr np ow m wv (q + 1) (w1 (sA X 560 q v) T) := fun v => mtI_560 hX
        have hzq : sa (w1 (sA X 560 q (msk (mcp S nr ow m wv q) nr)) T) 560 q = mal S nr ow m wv q := pk_us
        have hz1 := hz (msk (mcp S nr ow m wv q) nr)
        obtain ⟨Z, hZ⟩ : ∃ Z, Z = w1 (sA X 560 q (msk (mcp S nr ow m wv q) nr)) T := ⟨_, rfl⟩
        rw [← hZ] at hzq hz1 ⊢
        have hHz := off3_MH hz1.1 hH
        have fin := mtI_s hz1 (by omega) hzq
        refine J_iload_n (pc := 34) dX11_matches_34 rfl ?_
        refine J_aload_n (pc := 35) dX11_matches_35 rfl ?_
        refine J_getr (pc := 36) dX11_matches_36 kc11 fl_X11_23 rfl ?_
        refine J_iconst (pc := 39) (v := 1) dX11_matches_39 (by decide) ?_
        refine J_il (pc := 40) dX11_matches_40 (by first | rfl | assumption) (rfl : (1 : Int32) = nI 1) ⟨by first | decide | omega, by decide⟩ ?_
        refine J_icmp_ge (pc := 41) (tgt := 79) dX11_matches_41 (by decide) (fun c41 => ?_) (fun c41 => absurd (ix_ge hHz.2.1) c41)
        refine J_aload_n (pc := 79) dX11_matches_79 rfl ?_
        refine J_getr (pc := 80) dX11_matches_80 kc11 fl_X11_94 rfl ?_
        refine J_iload_n (pc := 83) dX11_matches_83 rfl ?_
        refine J_aload_n (pc := 84) dX11_matches_84 rfl ?_
        refine J_getr (pc := 85) dX11_matches_85 kc11 fl_X11_94 rfl ?_
        refine J_iload_n (pc := 88) dX11_matches_88 rfl ?_
        refine J_iconst (pc := 89) (v := 1) dX11_matches_89 (by decide) ?_
        refine J_iadd (pc := 90) dX11_matches_90 ?_
        refine J_il (pc := 91) dX11_matches_91 (by first | rfl | assumption) (nI_1 q) ⟨by first | decide | omega, by decide⟩ ?_
        refine J_aload_n (pc := 92) dX11_matches_92 rfl ?_
        refine J_getr (pc := 93) dX11_matches_93 kc11 fl_X11_91 rfl ?_
        refine J_iload_n (pc := 96) dX11_matches_96 rfl ?_
        refine J_il (pc := 97) dX11_matches_97 (by first | rfl | assumption) rfl ⟨by first | decide | omega, by decide⟩ ?_
        refine J_mid1 106 (if sa Z 560 q = 0 then 0 else 1) ?_ (fun hj98 => ?_)
        · refine J_iadd (pc := 106) dX11_matches_106 ?_
          refine J_is (pc := 107) dX11_matches_107 (by first | rfl | assumption) rfl ⟨by first | decide | omega, by decide⟩ ?_
          refine J_iinc (pc := 108) (v := -1) dX11_matches_108 rfl (by decide) rfl ?_
          refine J_goto (pc := 111) (tgt := 21) dX11_matches_111 (by decide) ?_
          exact J_forget (fun k u hu => by rcases k with _ | _ | _ | k <;> first | exact hu | (simp at hu)) (ih0 _ fin)
        · refine J_if_ne (pc := 98) (tgt := 105) dX11_matches_98 (by decide) (fun c98 => ?_) (fun c98 => ?_)
          · refine J_iconst (pc := 105) (v := 1) dX11_matches_105 (by decide) ?_
            exact hj98 _ (by first | exact (if_neg c98).symm | exact (if_pos c98).symm)
          · refine J_iconst (pc := 101) (v := 0) dX11_matches_101 (by decide) ?_
            refine J_goto (pc := 102) (tgt := 106) dX11_matches_102 (by decide) ?_
            exact hj98 _ (by first | exact (if_neg c98).symm | exact (if_pos c98).symm)
      · intro T
        have hofz : off3 S (sA X 560 q (msk (mcp S nr ow m wv q) i)) := off3_A hX.1 rfl
        have hHz := off3_MH hofz hH
        have hMz := off3_LawM hofz hW hM
        have hmc := off3_mcp hofz l1 ow m wv (p := q) (r := i) (by omega) hi
        have hzq : sa (sA X 560 q (msk (mcp S nr ow m wv q) i)) 560 q = msk (mcp S nr ow m wv q) i := pk_us
        have hzs : ∀ v, sA (sA X 560 q (msk (mcp S nr ow m wv q) i)) 560 q v = sA X 560 q v := fun v => sA_sA _ _ _ _ _
        obtain ⟨Z, hZ⟩ : ∃ Z, Z = sA X 560 q (msk (mcp S nr ow m wv q) i) := ⟨_, rfl⟩
        rw [← hZ] at hofz hHz hMz hmc hzq hzs ⊢
        refine J_iload_n (pc := 34) dX11_matches_34 rfl ?_
        refine J_aload_n (pc := 35) dX11_matches_35 rfl ?_
        refine J_getr (pc := 36) dX11_matches_36 kc11 fl_X11_23 rfl ?_
        refine J_iconst (pc := 39) (v := 1) dX11_matches_39 (by decide) ?_
        refine J_il (pc := 40) dX11_matches_40 (by first | rfl | assumption) (rfl : (1 : Int32) = nI 1) ⟨by first | decide | omega, by decide⟩ ?_
        refine J_icmp_ge (pc := 41) (tgt := 79) dX11_matches_41 (by decide) (fun c41 => absurd c41 (ix_lt hHz.2.1 hi (by omega))) (fun c41 => ?_)
        refine J_aload_n (pc := 44) dX11_matches_44 rfl ?_
        refine J_getr (pc := 45) dX11_matches_45 kc11 fl_X11_91 rfl ?_
        refine J_iload_n (pc := 48) dX11_matches_48 rfl ?_
        refine J_dup2 (pc := 49) dX11_matches_49 rfl rfl ?_
        refine J_il (pc := 50) dX11_matches_50 (by first | rfl | assumption) rfl ⟨by first | decide | omega, by decide⟩ ?_
        refine J_t1 (y := msk (mcp S nr ow m wv q) i) hzq ?_
        refine J_aload_n (pc := 51) dX11_matches_51 rfl ?_
        refine J_aload_n (pc := 52) dX11_matches_52 rfl ?_
        refine J_getr (pc := 53) dX11_matches_53 kc11 fl_X11_73 rfl ?_
        refine J_iload_n (pc := 56) dX11_matches_56 rfl ?_
        refine J_iload_n (pc := 57) dX11_matches_57 rfl ?_
        refine J_st (st' := [.int (nI q), .int (nI i), .ref 535, .ref 59, .int (msk (mcp S nr ow m wv q) i), .int (nI q), .ref 560]) (by rw [ix_nI]) ?_
        refine J_cvw (pc := 58) (N := mX11_canCure) dX11_matches_58 ml_X11_299 cf_X11_canCure cv_X11_canCure (r_X11_canCure (S := Z) (r := i) (p := q) row535 hHz hW hMz hi (by omega)) rfl rfl (Nat.le_of_ble_eq_true rfl) (by decide) (rv_of (ci := 11) rfl rfl rfl) ?_
        intro T
        refine J_t1 (y := bI (mcp S nr ow m wv q i)) (by rw [← hmc]; rfl) ?_
        refine J_if_eq (pc := 61) (tgt := 70) dX11_matches_61 (by decide) (fun c61 => ?_) (fun c61 => ?_)
        · have hb : mcp S nr ow m wv q i = false := bI_0.mp c61
          refine J_iconst (pc := 70) (v := 0) dX11_matches_70 (by decide) ?_
          refine J_ior (pc := 71) dX11_matches_71 ?_
          refine J_t1 (y := msk (mcp S nr ow m wv q) (i + 1)) (by first | exact msk_t hb | exact msk_f (by rw [hb]; decide)) ?_
          refine J_isw (pc := 72) dX11_matches_72 (by first | rfl | assumption) rfl ⟨by first | decide | omega, by decide⟩ ?_
          refine J_cg2 (S' := w1 (sA X 560 q (msk (mcp S nr ow m wv q) (i + 1))) T) (congrArg (fun Z => w1 Z T) (hzs _)) ?_
          refine J_iinc (pc := 73) (v := 1) dX11_matches_73 rfl (by decide) rfl ?_
          refine J_goto (pc := 76) (tgt := 34) dX11_matches_76 (by decide) ?_
          exact ih T
        · have hb : mcp S nr ow m wv q i = true := bI_1.mp c61
          refine J_iconst (pc := 64) (v := 1) dX11_matches_64 (by decide) ?_
          refine J_iload_n (pc := 65) dX11_matches_65 rfl ?_
          refine J_ishl (pc := 66) dX11_matches_66 ?_
          refine J_goto (pc := 67) (tgt := 71) dX11_matches_67 (by decide) ?_
          refine J_ior (pc := 71) dX11_matches_71 ?_
          refine J_t1 (y := msk (mcp S nr ow m wv q) (i + 1)) (by first | exact msk_t hb | exact msk_f (by rw [hb]; decide)) ?_
          refine J_isw (pc := 72) dX11_matches_72 (by first | rfl | assumption) rfl ⟨by first | decide | omega, by decide⟩ ?_
          refine J_cg2 (S' := w1 (sA X 560 q (msk (mcp S nr ow m wv q) (i + 1))) T) (congrArg (fun Z => w1 Z T) (hzs _)) ?_
          refine J_iinc (pc := 73) (v := 1) dX11_matches_73 rfl (by decide) rfl ?_
          refine J_goto (pc := 76) (tgt := 34) dX11_matches_76 (by decide) ?_
          exact ih T
  exact loop np (Nat.le_refl _) _ ⟨off3_A (off3_r S) rfl, fun p h1 h2 => by omega, fun p h1 h2 => by rw [show p = np by omega, Nat.sub_self]; exact pk_us, rfl, rfl⟩
theorem r_X11_match {g : Gp} {S : Sx} {ns nr np m : Nat} {ow : Nat → Nat} {wv : Nat → Nat × Nat} (hH : MH S ns nr np ow) (hW : LawW m wv) (hM : LawM S m wv) : RE g mX11_match 11 [.ref 59] S (some (.int (mtR (S0 S) nr np ow m wv).2.2)) (S0 S) := by
  refine RE_ofQ ⟨rfl, rfl⟩ (Nat.le_of_ble_eq_true rfl) (fun sz Q hQ => ?_)
  refine J_aload_n (pc := 0) dX11_match_0 rfl ?_
  refine J_iconst (pc := 1) (v := 0) dX11_match_1 (by decide) ?_
  refine J_puti (pc := 2) dX11_match_2 kc11 fl_X11_103 rfl ⟨rfl, rfl⟩ ?_
  refine J_aload_n (pc := 5) dX11_match_5 rfl ?_
  refine J_cvU (pc := 6) (N := mX11_matches) dX11_match_6 ml_X11_352 cf_X11_matches cv_X11_matches (r_X11_matches (S := S0 S) hH hW hM) rfl rfl (Nat.le_of_ble_eq_true rfl) (by decide) (rv_of (ci := 11) rfl rfl rfl) ?_
  intro X6 hX6
  refine J_aload_n (pc := 9) dX11_match_9 rfl ?_
  refine J_geti (pc := 10) dX11_match_10 kc11 fl_X11_345 rfl ?_
  exact J_iret (pc := 13) rfl rfl rfl dX11_match_13 (rqe hQ hX6.1 hX6.2.1)
theorem r_X11_matched_er {g : Gp} {S : Sx} {x : Int32} {ns nr np : Nat} {ow : Nat → Nat} (hH : MH S ns nr np ow) (hv : ¬ (0 ≤ x ∧ x ≤ nI np - 1)) : RT g mX11_matched 2 [.ref 59, .int x] S (some (.int 0)) (er S 1 0) := by
  refine RT_ofQ ⟨rfl, rfl⟩ (Nat.le_of_ble_eq_true rfl) (fun sz Q hQ => ?_)
  refine J_aload_n (pc := 0) dX11_matched_0 rfl ?_
  refine J_iconst (pc := 1) (v := 0) dX11_matched_1 (by decide) ?_
  refine J_puti (pc := 2) dX11_matched_2 kc11 fl_X11_103 rfl ⟨rfl, rfl⟩ ?_
  refine J_aload_n (pc := 5) dX11_matched_5 rfl ?_
  refine J_aload_n (pc := 6) dX11_matched_6 rfl ?_
  refine J_iload_n (pc := 7) dX11_matched_7 rfl ?_
  refine J_cvr (pc := 8) (N := mX11_isPerson) dX11_matched_8 ml_X11_342 cf_X11_isPerson cv_X11_isPerson (r_X11_isPerson (S := S0 S) hH) rfl rfl (Nat.le_of_ble_eq_true rfl) (by decide) (rv_of (ci := 11) rfl rfl rfl) ?_
  refine J_ifp_ne (pc := 11) (tgt := 18) dX11_matched_11 (by decide) (fun c11 => absurd c11 hv) (fun c11 => ?_)
  refine J_iconst (pc := 14) (v := 1) dX11_matched_14 (by decide) ?_
  refine J_goto (pc := 15) (tgt := 19) dX11_matched_15 (by decide) ?_
  refine J_iconst (pc := 19) (v := 1) dX11_matched_19 (by decide) ?_
  refine J_iconst (pc := 20) (v := 0) dX11_matched_20 (by decide) ?_
  refine J_cvr (pc := 21) (N := mX11_bad) dX11_matched_21 ml_X11_183 cf_X11_bad cv_X11_bad (r_X11_bad_t (k := 0) rfl (by decide) (by decide) rfl) rfl rfl (Nat.le_of_ble_eq_true rfl) (by decide) (rv_of (ci := 11) rfl rfl rfl) ?_
  refine J_if_eq (pc := 24) (tgt := 29) dX11_matched_24 (by decide) (fun c24 => absurd c24 (by decide)) (fun c24 => ?_)
  refine J_iconst (pc := 27) (v := 0) dX11_matched_27 (by decide) ?_
  exact J_iret (pc := 28) rfl rfl rfl dX11_matched_28 (rq hQ (by first | rfl | simp [bI, *] | simp_all [bI]) rfl)
theorem r_X11_matched {g : Gp} {S : Sx} {p : Nat} {ns nr np m : Nat} {ow : Nat → Nat} {wv : Nat → Nat × Nat} (hH : MH S ns nr np ow) (hW : LawW m wv) (hM : LawM S m wv) (hp : p < np) : RE g mX11_matched 11 [.ref 59, .int (nI p)] S (some (.int ((mtR (S0 S) nr np ow m wv).2.1 p))) (S0 S) := by
  refine RE_ofQ ⟨rfl, rfl⟩ (Nat.le_of_ble_eq_true rfl) (fun sz Q hQ => ?_)
  have hH' := hH
  obtain ⟨e0, e1, e2, l0, l1, l2, ho⟩ := hH'
  refine J_aload_n (pc := 0) dX11_matched_0 rfl ?_
  refine J_iconst (pc := 1) (v := 0) dX11_matched_1 (by decide) ?_
  refine J_puti (pc := 2) dX11_matched_2 kc11 fl_X11_103 rfl ⟨rfl, rfl⟩ ?_
  refine J_aload_n (pc := 5) dX11_matched_5 rfl ?_
  refine J_aload_n (pc := 6) dX11_matched_6 rfl ?_
  refine J_iload_n (pc := 7) dX11_matched_7 rfl ?_
  refine J_cvr (pc := 8) (N := mX11_isPerson) dX11_matched_8 ml_X11_342 cf_X11_isPerson cv_X11_isPerson (r_X11_isPerson (S := S0 S) hH) rfl rfl (Nat.le_of_ble_eq_true rfl) (by decide) (rv_of (ci := 11) rfl rfl rfl) ?_
  refine J_ifp_ne (pc := 11) (tgt := 18) dX11_matched_11 (by decide) (fun c11 => ?_) (fun c11 => absurd (inx hp (by omega)) c11)
  refine J_iconst (pc := 18) (v := 0) dX11_matched_18 (by decide) ?_
  refine J_iconst (pc := 19) (v := 1) dX11_matched_19 (by decide) ?_
  refine J_iconst (pc := 20) (v := 0) dX11_matched_20 (by decide) ?_
  refine J_cvr (pc := 21) (N := mX11_bad) dX11_matched_21 ml_X11_183 cf_X11_bad cv_X11_bad (r_X11_bad_f rfl) rfl rfl (Nat.le_of_ble_eq_true rfl) (by decide) (rv_of (ci := 11) rfl rfl rfl) ?_
  refine J_if_eq (pc := 24) (tgt := 29) dX11_matched_24 (by decide) (fun c24 => ?_) (fun c24 => absurd rfl c24)
  refine J_aload_n (pc := 29) dX11_matched_29 rfl ?_
  refine J_cvU (pc := 30) (N := mX11_matches) dX11_matched_30 ml_X11_352 cf_X11_matches cv_X11_matches (r_X11_matches (S := S0 S) hH hW hM) rfl rfl (Nat.le_of_ble_eq_true rfl) (by decide) (rv_of (ci := 11) rfl rfl rfl) ?_
  intro X30 hX30
  refine J_aload_n (pc := 33) dX11_matched_33 rfl ?_
  refine J_getr (pc := 34) dX11_matched_34 kc11 fl_X11_88 rfl ?_
  refine J_iload_n (pc := 37) dX11_matched_37 rfl ?_
  refine J_il (pc := 38) dX11_matched_38 (by first | rfl | assumption) rfl ⟨by first | decide | omega, by decide⟩ ?_
  exact J_iret (pc := 39) rfl rfl rfl dX11_matched_39 (rqe hQ hX30.1 (by rw [hX30.2.2]))
