/-! ===== texts are opened; a house begins ===== -/
theorem lpOne_bl {cc : Nat → Nat} {n : Nat} {R : Nat → Nat → LgS → Option LgS} {op a : Nat} {t : Nat × Nat} {l : List (Nat × Nat)} (hn : cc n = 999) (ha : a ≤ n) (h0 : t.1 = 0) : lpOne cc n R op ((pbl cc n a, t), l) = lpOne cc n R op ((a, t), l) := by
  unfold lpOne
  dsimp only
  rw [if_neg (show ¬ (t.1 ≠ 0) from fun z => z h0), if_neg (show ¬ (t.1 ≠ 0) from fun z => z h0), pbl_pbl hn ha]
theorem lp_bl {cc : Nat → Nat} {n : Nat} (hn : cc n = 999) {a : Nat} {t : Nat × Nat} {l : List (Nat × Nat)} (ha : a ≤ n) (h0 : t.1 = 0) {op : Nat} : ∀ f, lp cc n f 2 op ((pbl cc n a, t), l) = lp cc n f 2 op ((a, t), l) ∧ lp cc n f 1 op ((pbl cc n a, t), l) = lp cc n f 1 op ((a, t), l) ∧ lp cc n f 0 op ((pbl cc n a, t), l) = lp cc n f 0 op ((a, t), l)
  | 0 => ⟨rfl, rfl, rfl⟩
  | f + 1 => by
    obtain ⟨h2, h1, -⟩ := lp_bl hn ha h0 (op := op) f
    refine ⟨lpOne_bl hn ha h0, ?_, ?_⟩
    · show (lp cc n f 2 op ((pbl cc n a, t), l)).bind _ = (lp cc n f 2 op ((a, t), l)).bind _
      rw [h2]
    · show (lp cc n f 1 op ((pbl cc n a, t), l)).bind _ = (lp cc n f 1 op ((a, t), l)).bind _
      rw [h1]
def plL : List (Nat × Nat) := [(1, 0), (1, 1), (2, 0), (1, 2), (0, 2), (4, 0), (3, 0)]
theorem LIt_LC {X : Sx} {b : Nat} {wv : Nat → Nat × Nat} (h : LIt X b plL) : LC X b 0 wv := ⟨h.1, fun k hk => h.2 k hk⟩
theorem LIt_LC2 {X : Sx} {b : Nat} {l : List (Nat × Nat)} (h : LIt X b l) (h0 : l.length ≠ 0) : LC X b l.length (fun k => l.getD k (0, 0)) := by
  unfold LC cM cW
  rw [if_neg h0, if_neg h0]
  exact h
theorem r_X2_setPlain {g : Gp} {S : Sx} {b : Nat} (hLL : LLa b) : RU g mX2_setPlain 1 [.ref b] S (fun X => FRC (lwF b) (lwA b) S X ∧ LIt X b plL) := by
  refine RU_ofQ ⟨rfl, rfl⟩ (Nat.le_of_ble_eq_true rfl) (fun sz Q hQ => ?_)
  have h1 := LLa_1 hLL
  have i0 : LIt (sF S b 2 0) b [] := ⟨sF_s, fun k hk => absurd hk (Nat.not_lt_zero k)⟩
  have f0 : FRC (lwF b) (lwA b) S (sF S b 2 0) := FRC_F (FRC_r _ _ _) (lwF_t b)
  refine J_aload_n (pc := 0) dX2_setPlain_0 rfl ?_
  refine J_iconst (pc := 1) (v := 0) dX2_setPlain_1 (by decide) ?_
  refine J_puti (pc := 2) dX2_setPlain_2 kc2 fl_X2_18 (by first | exact law_i2 (by assumption) | rfl) ⟨rfl, rfl⟩ ?_
  refine J_aload_n (pc := 5) dX2_setPlain_5 rfl ?_
  refine J_sipush (pc := 6) (v := 1000) dX2_setPlain_6 (by decide) ?_
  refine J_cvv (pc := 9) (N := mX2_add) dX2_setPlain_9 ml_X2_22 cf_X2_add cv_X2_add (r_X2_add hLL (m := 0) (by decide) i0.1) rfl rfl (Nat.le_of_ble_eq_true rfl) (by decide) (rv_of (ci := 2) (by first | exact law_n (by assumption) | rfl) rfl rfl) ?_
  have i1 := ad_I i0 (by decide) (1, 0)
  have f1 : FRC (lwF b) (lwA b) S _ := ad_F f0 (m := 0) (x := 1000)
  refine J_aload_n (pc := 12) dX2_setPlain_12 rfl ?_
  refine J_sipush (pc := 13) (v := 1001) dX2_setPlain_13 (by decide) ?_
  refine J_cvv (pc := 16) (N := mX2_add) dX2_setPlain_16 ml_X2_22 cf_X2_add cv_X2_add (r_X2_add hLL (m := 1) (by decide) i1.1) rfl rfl (Nat.le_of_ble_eq_true rfl) (by decide) (rv_of (ci := 2) (by first | exact law_n (by assumption) | rfl) rfl rfl) ?_
  have i2 := ad_I i1 (by decide) (1, 1)
  have f2 : FRC (lwF b) (lwA b) S _ := ad_F f1 (m := 1) (x := 1001)
  refine J_aload_n (pc := 19) dX2_setPlain_19 rfl ?_
  refine J_sipush (pc := 20) (v := 2000) dX2_setPlain_20 (by decide) ?_
  refine J_cvv (pc := 23) (N := mX2_add) dX2_setPlain_23 ml_X2_22 cf_X2_add cv_X2_add (r_X2_add hLL (m := 2) (by decide) i2.1) rfl rfl (Nat.le_of_ble_eq_true rfl) (by decide) (rv_of (ci := 2) (by first | exact law_n (by assumption) | rfl) rfl rfl) ?_
  have i3 := ad_I i2 (by decide) (2, 0)
  have f3 : FRC (lwF b) (lwA b) S _ := ad_F f2 (m := 2) (x := 2000)
  refine J_aload_n (pc := 26) dX2_setPlain_26 rfl ?_
  refine J_sipush (pc := 27) (v := 1002) dX2_setPlain_27 (by decide) ?_
  refine J_cvv (pc := 30) (N := mX2_add) dX2_setPlain_30 ml_X2_22 cf_X2_add cv_X2_add (r_X2_add hLL (m := 3) (by decide) i3.1) rfl rfl (Nat.le_of_ble_eq_true rfl) (by decide) (rv_of (ci := 2) (by first | exact law_n (by assumption) | rfl) rfl rfl) ?_
  have i4 := ad_I i3 (by decide) (1, 2)
  have f4 : FRC (lwF b) (lwA b) S _ := ad_F f3 (m := 3) (x := 1002)
  refine J_aload_n (pc := 33) dX2_setPlain_33 rfl ?_
  refine J_iconst (pc := 34) (v := 2) dX2_setPlain_34 (by decide) ?_
  refine J_cvv (pc := 35) (N := mX2_add) dX2_setPlain_35 ml_X2_22 cf_X2_add cv_X2_add (r_X2_add hLL (m := 4) (by decide) i4.1) rfl rfl (Nat.le_of_ble_eq_true rfl) (by decide) (rv_of (ci := 2) (by first | exact law_n (by assumption) | rfl) rfl rfl) ?_
  have i5 := ad_I i4 (by decide) (0, 2)
  have f5 : FRC (lwF b) (lwA b) S _ := ad_F f4 (m := 4) (x := 2)
  refine J_aload_n (pc := 38) dX2_setPlain_38 rfl ?_
  refine J_sipush (pc := 39) (v := 2002) dX2_setPlain_39 (by decide) ?_
  refine J_cvv (pc := 42) (N := mX2_add) dX2_setPlain_42 ml_X2_22 cf_X2_add cv_X2_add (r_X2_add hLL (m := 5) (by decide) i5.1) rfl rfl (Nat.le_of_ble_eq_true rfl) (by decide) (rv_of (ci := 2) (by first | exact law_n (by assumption) | rfl) rfl rfl) ?_
  have i6 := ad_I i5 (by decide) (4, 0)
  have f6 : FRC (lwF b) (lwA b) S _ := ad_F f5 (m := 5) (x := 2002)
  refine J_aload_n (pc := 45) dX2_setPlain_45 rfl ?_
  refine J_sipush (pc := 46) (v := 2001) dX2_setPlain_46 (by decide) ?_
  refine J_cvv (pc := 49) (N := mX2_add) dX2_setPlain_49 ml_X2_22 cf_X2_add cv_X2_add (r_X2_add hLL (m := 6) (by decide) i6.1) rfl rfl (Nat.le_of_ble_eq_true rfl) (by decide) (rv_of (ci := 2) (by first | exact law_n (by assumption) | rfl) rfl rfl) ?_
  have i7 := ad_I i6 (by decide) (3, 0)
  have f7 : FRC (lwF b) (lwA b) S _ := ad_F f6 (m := 6) (x := 2001)
  exact J_ret (pc := 52) rfl rfl dX2_setPlain_52 (hQ _ ⟨f7, i7⟩)
def cb0 (ns : Nat) : Row := fun k => if k = 1 then msk (fun _ => true) ns else if k < 23 then 0 else -1
def row0 : Row := fun k => if (16 ≤ k ∧ k < 26) ∨ (36 ≤ k ∧ k < 44) then -1 else 0
theorem msk_sh : ∀ n, n ≤ 8 → (1 : Int32) <<< (nI n &&& 31) - 1 = msk (fun _ => true) n := by decide +kernel
theorem RC_0 {d : HD} (hv : HV d) {c : Row} (hc : ∀ k, k < 31 → c k = cb0 (dNs d) k) {f : Row} (hf : ∀ k, k < 45 → f k = row0 k) : RC d c f := by
  have n1 : dNs d ≤ 8 := hv.1
  have n2 : dNr d ≤ 10 := hv.2.1
  have n3 : dNp d ≤ 8 := hv.2.2.1
  have z0 : ∀ k, k < 45 → ¬ ((16 ≤ k ∧ k < 26) ∨ (36 ≤ k ∧ k < 44)) → f k = 0 := fun k h1 h2 => (hf k h1).trans (if_neg h2)
  have z1 : ∀ k, k < 45 → ((16 ≤ k ∧ k < 26) ∨ (36 ≤ k ∧ k < 44)) → f k = -1 := fun k h1 h2 => (hf k h1).trans (if_pos h2)
  have y0 : ∀ k, k < 23 → k ≠ 1 → c k = 0 := fun k h1 h2 => (hc k (by omega)).trans ((if_neg h2).trans (if_pos h1))
  refine ⟨?_, ?_, ?_, ?_, ?_, fun r hr h => absurd (z1 (16 + r) (by omega) (by omega)) h, fun s hs => ?_, fun p hp => ?_, fun s hs => Or.inl (z0 _ (by omega) (by omega)), fun r hr => Or.inl (z0 _ (by omega) (by omega))⟩
  · rw [y0 0 (by decide) (by decide), z0 44 (by decide) (by decide)]
  · refine (hc 1 (by decide)).trans ((if_pos rfl).trans (msk_congr (fun s hs => (decide_eq_true (z0 (0 + s) (by omega) (by omega))).symm)))
  · rw [y0 2 (by decide) (by decide)]
    exact ((msk_congr (q := fun _ => false) (fun r hr => decide_eq_false (fun z => z (z1 (16 + r) (by omega) (by omega))))).trans (msk_no _)).symm
  · rw [y0 3 (by decide) (by decide)]
    exact ((msk_congr (q := fun _ => false) (fun r hr => decide_eq_false (fun z => z (z1 (36 + r) (by omega) (by omega))))).trans (msk_no _)).symm
  · rw [y0 4 (by decide) (by decide)]
    exact ((msk_congr (q := fun _ => false) (fun r hr => decide_eq_false (fun z => by rw [z0 (26 + r) (by omega) (by omega)] at z; exact absurd z (by decide)))).trans (msk_no _)).symm
  · rw [y0 (15 + s) (by omega) (by omega), z0 (8 + s) (by omega) (by omega)]
  · rw [z1 (36 + p) (by omega) (by omega), hc (23 + p) (by omega)]
    unfold cb0
    rw [if_neg (by omega), if_neg (by omega)]
def bgF (b : Nat) (x k : Nat) : Bool := lwF b x k
def bgB (b : Nat) (x : Nat) : Bool := lwA b x || x == 16
theorem r_X0_begin {g : Gp} {S : Sx} {a b : Nat} {d : HD} (hHL : HLa a) (hLL : LLa b) (hp2 : sp S 3 2 = a) (hp3 : sp S 3 3 = b) (hns : sf S a 8 = nI (dNs d)) (h8 : dNs d ≤ 8) : RU g mX0_begin 2 [.ref 3] S (fun X => FRC (lwF b) (bgB b) S X ∧ LIt X b plL ∧ ∀ k, k < 31 → sa X 16 k = cb0 (dNs d) k) := by
  refine RU_ofQ ⟨rfl, rfl⟩ (Nat.le_of_ble_eq_true rfl) (fun sz Q hQ => ?_)
  refine J_iconst (pc := 0) (v := 0) dX0_begin_0 (by decide) ?_
  refine J_istore_n (pc := 1) dX0_begin_1 (by decide) rfl ?_
  have key : ∀ m i X, i + m = 31 → FRC (lwF b) (bgB b) S X → sf X = sf S → (∀ k, k < i → sa X 16 k = if k < 23 then 0 else -1) → J g mX0_begin 2 [] 2 [some (.ref 3), some (.int (nI i))] [] (hs X) sz 0 0 Q := by
    intro m
    induction m with
    | zero =>
      intro i X hm hf h0 hr
      have hi : i = 31 := by omega
      subst hi
      have q2 : sp X 3 2 = a := by rw [hf.1.2.1]; exact hp2
      have q3 : sp X 3 3 = b := by rw [hf.1.2.1]; exact hp3
      have q4 : sf X a 8 = nI (dNs d) := by rw [h0]; exact hns
      refine J_iload_n (pc := 2) dX0_begin_2 rfl ?_
      refine J_bipush (pc := 3) (v := 31) dX0_begin_3 (by decide) ?_
      refine J_icmp_ge (pc := 5) (tgt := 31) dX0_begin_5 (by decide) (fun c5 => ?_) (fun c5 => absurd (Int32.le_refl _) c5)
      refine J_aload_n (pc := 31) dX0_begin_31 rfl ?_
      refine J_getr (pc := 32) dX0_begin_32 kc0 fl_X0_11 (by first | exact cvn_r0 (by assumption) | rfl) ?_
      refine J_iconst (pc := 35) (v := 1) dX0_begin_35 (by decide) ?_
      refine J_iconst (pc := 36) (v := 1) dX0_begin_36 (by decide) ?_
      refine J_aload_n (pc := 37) dX0_begin_37 rfl ?_
      refine J_getp (pc := 38) dX0_begin_38 kc0 fl_X0_20 (by first | exact cvn_p2 (by assumption) | rfl) ?_
      refine J_tr q2 ?_
      refine J_getiN (pc := 41) dX0_begin_41 kc1 fl_X0_31 (by first | exact hou_i8 (by assumption) | rfl) ?_
      refine J_t1 q4 ?_
      refine J_ishl (pc := 44) dX0_begin_44 ?_
      refine J_iconst (pc := 45) (v := 1) dX0_begin_45 (by decide) ?_
      refine J_isub (pc := 46) dX0_begin_46 ?_
      refine J_t1 (msk_sh _ h8) ?_
      refine J_is (pc := 47) dX0_begin_47 rfl (rfl : (1 : Int32) = nI 1) ⟨by decide, by decide⟩ ?_
      refine J_aload_n (pc := 48) dX0_begin_48 rfl ?_
      refine J_getp (pc := 49) dX0_begin_49 kc0 fl_X0_24 (by first | exact cvn_p3 (by assumption) | rfl) ?_
      refine J_tr q3 ?_
      refine J_cnU (pc := 52) (N := mX2_setPlain) dX0_begin_52 ml_X0_37 cf_X2_setPlain cv_X2_setPlain (r_X2_setPlain hLL) rfl rfl (Nat.le_of_ble_eq_true rfl) (by decide) (rv_of (ci := 2) (by first | exact law_n (by assumption) | rfl) rfl rfl) ?_
      intro X52 hX52
      obtain ⟨f1, l1⟩ := hX52
      exact J_ret rfl rfl dX0_begin_55 (hQ _ ⟨FRC_t (FRC_A hf (by unfold bgB; rw [show ((16 : Nat) == 16) = true from rfl, Bool.or_true])) ⟨FRM_mono f1.1 (fun _ _ q => q) (fun x q => by unfold bgB at q; cases e : lwA b x; (rfl); (rw [e] at q; cases q)), f1.2⟩, l1, fun k hk => by
        have e16 : sa X52 16 = sa (sA X 16 1 (msk (fun _ => true) (dNs d))) 16 := f1.1.2.2 16 (decide_eq_false (fun z => by rcases hLL with rfl | rfl <;> omega))
        rw [e16, sa_sA, if_pos rfl]
        unfold cb0
        by_cases e : k = 1
        · rw [if_pos e, if_pos e]
        · rw [if_neg e, if_neg e]; exact hr k hk⟩)
    | succ m ih =>
      intro i X hm hf h0 hr
      refine J_iload_n (pc := 2) dX0_begin_2 rfl ?_
      refine J_bipush (pc := 3) (v := 31) dX0_begin_3 (by decide) ?_
      refine J_icmp_ge (pc := 5) (tgt := 31) dX0_begin_5 (by decide) (fun c5 => absurd c5 (nI_ge (b := 31) (by omega) (by decide))) (fun c5 => ?_)
      refine J_aload_n (pc := 8) dX0_begin_8 rfl ?_
      refine J_getr (pc := 9) dX0_begin_9 kc0 fl_X0_11 (by first | exact cvn_r0 (by assumption) | rfl) ?_
      refine J_iload_n (pc := 12) dX0_begin_12 rfl ?_
      refine J_iload_n (pc := 13) dX0_begin_13 rfl ?_
      refine J_bipush (pc := 14) (v := 23) dX0_begin_14 (by decide) ?_
      refine J_mid2 24 (if i < 23 then 0 else -1) ?_ (fun hj16 => ?_)
      · refine J_is (pc := 24) dX0_begin_24 rfl rfl ⟨by omega, by decide⟩ ?_
        refine J_iinc (pc := 25) (v := 1) dX0_begin_25 rfl (by decide) rfl ?_
        rw [nI_1]
        refine J_goto (pc := 28) (tgt := 2) dX0_begin_28 (by decide) ?_
        refine ih (i + 1) _ (by omega) (FRC_A hf (by unfold bgB; rw [show ((16 : Nat) == 16) = true from rfl, Bool.or_true])) h0 (fun r hr1 => ?_)
        by_cases e : r = i
        · subst e; exact sa_e _ _ _ _
        · rw [sa_n e]; exact hr r (by omega)
      · refine J_icmp_ge (pc := 16) (tgt := 23) dX0_begin_16 (by decide) (fun c16 => ?_) (fun c16 => ?_)
        · refine J_iconst (pc := 23) (v := -1) dX0_begin_23 (by decide) ?_
          exact hj16 _ (by first | exact (if_pos (Nat.lt_of_not_le (fun z => c16 (nI_le (a := 23) z (by omega))))).symm | exact (if_neg (fun z => absurd (nI_lt (b := 23) z (by decide)) (Int32.not_lt.mpr c16))).symm)
        · refine J_iconst (pc := 19) (v := 0) dX0_begin_19 (by decide) ?_
          refine J_goto (pc := 20) (tgt := 24) dX0_begin_20 (by decide) ?_
          exact hj16 _ (by first | exact (if_pos (Nat.lt_of_not_le (fun z => c16 (nI_le (a := 23) z (by omega))))).symm | exact (if_neg (fun z => absurd (nI_lt (b := 23) z (by decide)) (Int32.not_lt.mpr c16))).symm)
  exact key 31 0 S rfl (FRC_r _ _ _) rfl (fun r hr => absurd hr (Nat.not_lt_zero r))
def opS (S : Sx) (n : Nat) : Sx := sF (sF S 1 2 (nI n)) 1 1 0
theorem op_ct (S : Sx) (n : Nat) : sF (sF (sF (sF (opS S n) 1 3 0) 1 4 0) 1 5 0) 1 6 (-1) = ct (opS S n) (0, 0, 0, 0) := by
  have : up2 (up2 (up2 (up2 (sf (opS S n)) 1 3 0) 1 4 0) 1 5 0) 1 6 (-1) = sf (ct (opS S n) (0, 0, 0, 0)) := by
    funext x y
    by_cases hx : x = 1
    · subst hx
      by_cases h6 : y = 6
      · subst h6; rfl
      by_cases h5 : y = 5
      · subst h5; rfl
      by_cases h4 : y = 4
      · subst h4; rfl
      by_cases h3 : y = 3
      · subst h3; rfl
      simp [ct, sf, up2, h6, h5, h4, h3]
    · simp [ct, sf, up2, hx]
  exact Prod.ext this rfl
def FC (S : Sx) (n : Nat) (cc : Nat → Nat) : Prop := n ≤ 600 ∧ (∀ k, k < n → sa S 2 k = b8 (cc k) ∧ cc k < 256) ∧ ∀ k, n ≤ k → cc k = 999
theorem FC_op {S : Sx} {n : Nat} {cc : Nat → Nat} (h : FC S n cc) : CTX (opS S n) n cc := ⟨by show sf (sF (sF S 1 2 (nI n)) 1 1 0) 1 2 = nI n; rw [sf_o (by omega), sF_s], h.1, h.2.1, h.2.2⟩
theorem UO_0 (n : Nat) : UO n (0, 0, 0, 0) := ⟨Nat.zero_le _, Nat.zero_le _, Nat.zero_le _, Nat.zero_le _⟩
theorem r_X8_open {g : Gp} {S : Sx} {n : Nat} : RT g mX8_open 0 [.ref 1, .int (nI n)] S none (ct (opS S n) (0, 0, 0, 0)) := by
  refine RT_ofQ ⟨rfl, rfl⟩ (Nat.le_of_ble_eq_true rfl) (fun sz Q hQ => ?_)
  refine J_aload_n (pc := 0) dX8_open_0 rfl ?_
  refine J_iload_n (pc := 1) dX8_open_1 rfl ?_
  refine J_puti (pc := 2) dX8_open_2 kc8 fl_X8_22 rfl ⟨rfl, rfl⟩ ?_
  refine J_aload_n (pc := 5) dX8_open_5 rfl ?_
  refine J_iconst (pc := 6) (v := 0) dX8_open_6 (by decide) ?_
  refine J_puti (pc := 7) dX8_open_7 kc8 fl_X8_19 rfl ⟨rfl, rfl⟩ ?_
  refine J_aload_n (pc := 10) dX8_open_10 rfl ?_
  refine J_iconst (pc := 11) (v := 0) dX8_open_11 (by decide) ?_
  refine J_puti (pc := 12) dX8_open_12 kc8 fl_X8_25 rfl ⟨rfl, rfl⟩ ?_
  refine J_aload_n (pc := 15) dX8_open_15 rfl ?_
  refine J_iconst (pc := 16) (v := 0) dX8_open_16 (by decide) ?_
  refine J_puti (pc := 17) dX8_open_17 kc8 fl_X8_28 rfl ⟨rfl, rfl⟩ ?_
  refine J_aload_n (pc := 20) dX8_open_20 rfl ?_
  refine J_iconst (pc := 21) (v := 0) dX8_open_21 (by decide) ?_
  refine J_puti (pc := 22) dX8_open_22 kc8 fl_X8_31 rfl ⟨rfl, rfl⟩ ?_
  refine J_aload_n (pc := 25) dX8_open_25 rfl ?_
  refine J_iconst (pc := 26) (v := -1) dX8_open_26 (by decide) ?_
  refine J_puti (pc := 27) dX8_open_27 kc8 fl_X8_15 rfl ⟨rfl, rfl⟩ ?_
  exact J_ret (pc := 30) rfl rfl dX8_open_30 (rqv hQ (op_ct S n))
theorem mn_le {a b : Nat} (ha : a < 2 ^ 31) (hb : b < 2 ^ 31) : (if nI b < nI a then nI b else nI a) = nI (min a b) := by
  by_cases q : b < a
  · rw [if_pos (nI_lt q ha), Nat.min_eq_right (by omega)]
  · rw [if_neg (nI_nlt (by omega) hb), Nat.min_eq_left (by omega)]
theorem r_X10_openText {g : Gp} {S : Sx} {n tp mx : Nat} (ht : sf S 1 1 = nI tp) (h6 : tp ≤ 600) (hnt : n ≤ tp) (hm : n ≤ mx) (hm6 : mx ≤ 600) : RT g mX10_openText 1 [.ref 0, .int (nI n), .int (nI mx)] S none (ct (opS S n) (0, 0, 0, 0)) := by
  refine RT_ofQ ⟨rfl, rfl⟩ (Nat.le_of_ble_eq_true rfl) (fun sz Q hQ => ?_)
  refine J_aload_n (pc := 0) dX10_openText_0 rfl ?_
  refine J_iload_n (pc := 1) dX10_openText_1 rfl ?_
  refine J_iconst (pc := 2) (v := 0) dX10_openText_2 (by decide) ?_
  refine J_iload_n (pc := 3) dX10_openText_3 rfl ?_
  refine J_aload_n (pc := 4) dX10_openText_4 rfl ?_
  refine J_getr (pc := 5) dX10_openText_5 kc10 fl_X10_10 rfl ?_
  refine J_getiN (pc := 8) dX10_openText_8 kc8 fl_X10_107 rfl ?_
  refine J_t1 ht ?_
  refine J_mmin (pc := 11) dX10_openText_11 ml_X10_323 (Nat.le_of_ble_eq_true rfl) ?_
  refine J_t1 (y := nI (min mx tp)) (mn_le (a := mx) (b := tp) (by omega) (by omega)) ?_
  refine J_csr (pc := 14) (N := mX10_isWithin) dX10_openText_14 ml_X10_177 cf_X10_isWithin cs_X10_isWithin r_X10_isWithin rfl rfl (Nat.le_of_ble_eq_true rfl) (by decide) ?_
  refine J_t1 (y := 1) (bI_t ⟨nI_pos' (by omega), nI_le (by omega) (by omega)⟩) ?_
  refine J_cvv (pc := 17) (N := mX10_needArgument) dX10_openText_17 ml_X10_181 cf_X10_needArgument cv_X10_needArgument r_X10_needArgument_ok rfl rfl (Nat.le_of_ble_eq_true rfl) (by decide) (rv_of (ci := 10) rfl rfl rfl) ?_
  refine J_aload_n (pc := 20) dX10_openText_20 rfl ?_
  refine J_getr (pc := 21) dX10_openText_21 kc10 fl_X10_10 rfl ?_
  refine J_iload_n (pc := 24) dX10_openText_24 rfl ?_
  refine J_cnv (pc := 25) (N := mX8_open) dX10_openText_25 ml_X10_369 cf_X8_open cv_X8_open r_X8_open rfl rfl (Nat.le_of_ble_eq_true rfl) (by decide) (rv_of (ci := 8) rfl rfl rfl) ?_
  exact J_ret (pc := 28) rfl rfl dX10_openText_28 (rqv hQ rfl)
/-! ===== bytes are fed ===== -/
def ptS (S : Sx) (t : Nat) (x : Int32) : Nat → Sx
  | 0 => S
  | i + 1 => sF (sA (ptS S t x i) 2 (t + i) ((x >>> (nI (24 - 8 * i) &&& 31)).toInt8.toInt32)) 1 1 (nI (t + i + 1))
theorem ptS_t {S : Sx} {t : Nat} {x : Int32} (h : sf S 1 1 = nI t) : ∀ i, sf (ptS S t x i) 1 1 = nI (t + i)
  | 0 => h
  | i + 1 => sF_s
theorem nar_b (x : Int32) : vp_nar .byte (x.toInt8.toInt32) = x.toInt8.toInt32 := by
  show x.toInt8.toInt32.toInt8.toInt32 = _
  rw [Int8.toInt8_toInt32]
theorem r_X8_hasRoom {g : Gp} {S : Sx} {t : Nat} (ht : sf S 1 1 = nI t) (h6 : t ≤ 600) : RT g mX8_hasRoom 0 [.ref 1] S (some (.int (bI (decide (t + 20 ≤ 600))))) S := by
  refine RT_ofQ ⟨rfl, rfl⟩ (Nat.le_of_ble_eq_true rfl) (fun sz Q hQ => ?_)
  refine J_aload_n (pc := 0) dX8_hasRoom_0 rfl ?_
  refine J_geti (pc := 1) dX8_hasRoom_1 kc8 fl_X8_19 rfl ?_
  refine J_t1 ht ?_
  refine J_bipush (pc := 4) (v := 20) dX8_hasRoom_4 (by decide) ?_
  refine J_iadd (pc := 6) dX8_hasRoom_6 ?_
  refine J_t1 (y := nI (t + 20)) (nI_add t 20) ?_
  refine J_aload_n (pc := 7) dX8_hasRoom_7 rfl ?_
  refine J_getr (pc := 8) dX8_hasRoom_8 kc8 fl_X8_9 rfl ?_
  refine J_al (pc := 11) dX8_hasRoom_11 rfl (by decide) rfl ?_
  refine J_icmp_gt (pc := 12) (tgt := 19) dX8_hasRoom_12 (by decide) (fun c12 => ?_) (fun c12 => ?_)
  · refine J_iconst (pc := 19) (v := 0) dX8_hasRoom_19 (by decide) ?_
    exact J_iret (pc := 20) rfl rfl rfl dX8_hasRoom_20 (rq hQ (by first | exact Eq.symm (bI_t ((nI_leI (b := 600) (by omega) (by decide)).mp (Int32.not_lt.mp c12))) | exact Eq.symm (bI_f (fun q => absurd (nI_le (b := 600) q (by decide)) (Int32.not_le.mpr c12)))) rfl)
  · refine J_iconst (pc := 15) (v := 1) dX8_hasRoom_15 (by decide) ?_
    refine J_goto (pc := 16) (tgt := 20) dX8_hasRoom_16 (by decide) ?_
    exact J_iret (pc := 20) rfl rfl rfl dX8_hasRoom_20 (rq hQ (by first | exact Eq.symm (bI_t ((nI_leI (b := 600) (by omega) (by decide)).mp (Int32.not_lt.mp c12))) | exact Eq.symm (bI_f (fun q => absurd (nI_le (b := 600) q (by decide)) (Int32.not_le.mpr c12)))) rfl)
theorem r_X8_put {g : Gp} {S : Sx} {t : Nat} {x : Int32} (ht : sf S 1 1 = nI t) (h6 : t + 4 ≤ 600) : RT g mX8_put 0 [.ref 1, .int x] S none (ptS S t x 4) := by
  refine RT_ofQ ⟨rfl, rfl⟩ (Nat.le_of_ble_eq_true rfl) (fun sz Q hQ => ?_)
  refine J_bipush (pc := 0) (v := 24) dX8_put_0 (by decide) ?_
  refine J_istore_n (pc := 2) dX8_put_2 (by decide) rfl ?_
  have key : ∀ m i (z : Int32), i + m = 4 → (i < 4 → z = nI (24 - 8 * i)) → (i = 4 → z = -8) → J g mX8_put 0 [] 3 [some (.ref 1), some (.int x), some (.int z)] [] (hs (ptS S t x i)) sz 0 0 Q := by
    intro m
    induction m with
    | zero =>
      intro i z hm h1 h2
      have hi : i = 4 := by omega
      subst hi
      have hz := h2 rfl
      subst hz
      refine J_iload_n (pc := 3) dX8_put_3 rfl ?_
      refine J_if_lt (pc := 4) (tgt := 48) dX8_put_4 (by decide) (fun c4 => ?_) (fun c4 => absurd (by decide) c4)
      exact J_ret (pc := 48) rfl rfl dX8_put_48 (rqv hQ rfl)
    | succ m ih =>
      intro i z hm h1 h2
      have hz := h1 (by omega)
      subst hz
      have hti := ptS_t (x := x) ht i
      refine J_iload_n (pc := 3) dX8_put_3 rfl ?_
      refine J_if_lt (pc := 4) (tgt := 48) dX8_put_4 (by decide) (fun c4 => absurd c4 (Int32.not_lt.mpr (nI_pos' (by omega)))) (fun c4 => ?_)
      refine J_aload_n (pc := 7) dX8_put_7 rfl ?_
      refine J_geti (pc := 8) dX8_put_8 kc8 fl_X8_19 rfl ?_
      refine J_t1 hti ?_
      refine J_aload_n (pc := 11) dX8_put_11 rfl ?_
      refine J_getr (pc := 12) dX8_put_12 kc8 fl_X8_9 rfl ?_
      refine J_al (pc := 15) dX8_put_15 rfl (by decide) rfl ?_
      refine J_icmp_ge (pc := 16) (tgt := 48) dX8_put_16 (by decide) (fun c16 => absurd c16 (nI_ge (b := 600) (by omega) (by decide))) (fun c16 => ?_)
      refine J_aload_n (pc := 19) dX8_put_19 rfl ?_
      refine J_getr (pc := 20) dX8_put_20 kc8 fl_X8_9 rfl ?_
      refine J_aload_n (pc := 23) dX8_put_23 rfl ?_
      refine J_geti (pc := 24) dX8_put_24 kc8 fl_X8_19 rfl ?_
      refine J_t1 hti ?_
      refine J_iload_n (pc := 27) dX8_put_27 rfl ?_
      refine J_iload_n (pc := 28) dX8_put_28 rfl ?_
      refine J_ishr (pc := 29) dX8_put_29 ?_
      refine J_i2b (pc := 30) dX8_put_30 ?_
      refine J_bs (pc := 31) dX8_put_31 rfl rfl ⟨by omega, by decide⟩ (nar_b _) ?_
      refine J_aload_n (pc := 32) dX8_put_32 rfl ?_
      refine J_dup (pc := 33) dX8_put_33 rfl ?_
      refine J_geti (pc := 34) dX8_put_34 kc8 fl_X8_19 rfl ?_
      refine J_t1 (y := nI (t + i)) hti ?_
      refine J_iconst (pc := 37) (v := 1) dX8_put_37 (by decide) ?_
      refine J_iadd (pc := 38) dX8_put_38 ?_
      rw [nI_1]
      refine J_puti (pc := 39) dX8_put_39 kc8 fl_X8_19 rfl ⟨rfl, rfl⟩ ?_
      refine J_iinc (pc := 42) (v := -8) dX8_put_42 rfl (by decide) rfl ?_
      refine J_goto (pc := 45) (tgt := 3) dX8_put_45 (by decide) ?_
      refine ih (i + 1) _ (by omega) (fun z => ?_) (fun z => ?_)
      · have : i = 0 ∨ i = 1 ∨ i = 2 := by omega
        rcases this with rfl | rfl | rfl <;> rfl
      · have : i = 3 := by omega
        subst this
        rfl
  exact key 4 0 _ rfl (fun _ => rfl) (fun z => absurd z (by decide))
def fcS (S : Sx) (t : Nat) (a b c d e : Int32) : Sx := ptS (ptS (ptS (ptS (ptS S t a 4) (t + 4) b 4) (t + 8) c 4) (t + 12) d 4) (t + 16) e 4
theorem r_X10_feed {g : Gp} {S : Sx} {a b c d e : Int32} {t : Nat} (ht : sf S 1 1 = nI t) (h6 : t + 20 ≤ 600) : RT g mX10_feed 1 [.ref 0, .int a, .int b, .int c, .int d, .int e] S (some (.int (nI (t + 20)))) (fcS S t a b c d e) := by
  refine RT_ofQ ⟨rfl, rfl⟩ (Nat.le_of_ble_eq_true rfl) (fun sz Q hQ => ?_)
  have t1 := ptS_t (x := a) ht 4
  have t2 := ptS_t (x := b) t1 4
  have t3 := ptS_t (x := c) t2 4
  have t4 := ptS_t (x := d) t3 4
  have t5 := ptS_t (x := e) t4 4
  refine J_aload_n (pc := 0) dX10_feed_0 rfl ?_
  refine J_getr (pc := 1) dX10_feed_1 kc10 fl_X10_10 rfl ?_
  refine J_cnr (pc := 4) (N := mX8_hasRoom) dX10_feed_4 ml_X10_99 cf_X8_hasRoom cv_X8_hasRoom (r_X8_hasRoom ht (by omega)) rfl rfl (Nat.le_of_ble_eq_true rfl) (by decide) (rv_of (ci := 8) rfl rfl rfl) ?_
  refine J_ifp_ne (pc := 7) (tgt := 12) dX10_feed_7 (by decide) (fun c7 => ?_) (fun c7 => absurd h6 c7)
  refine J_aload_n (pc := 12) dX10_feed_12 rfl ?_
  refine J_getr (pc := 13) dX10_feed_13 kc10 fl_X10_10 rfl ?_
  refine J_iload_n (pc := 16) dX10_feed_16 rfl ?_
  refine J_cnv (pc := 17) (N := mX8_put) dX10_feed_17 ml_X10_103 cf_X8_put cv_X8_put (r_X8_put ht (by omega)) rfl rfl (Nat.le_of_ble_eq_true rfl) (by decide) (rv_of (ci := 8) rfl rfl rfl) ?_
  refine J_aload_n (pc := 20) dX10_feed_20 rfl ?_
  refine J_getr (pc := 21) dX10_feed_21 kc10 fl_X10_10 rfl ?_
  refine J_iload_n (pc := 24) dX10_feed_24 rfl ?_
  refine J_cnv (pc := 25) (N := mX8_put) dX10_feed_25 ml_X10_103 cf_X8_put cv_X8_put (r_X8_put t1 (by omega)) rfl rfl (Nat.le_of_ble_eq_true rfl) (by decide) (rv_of (ci := 8) rfl rfl rfl) ?_
  refine J_aload_n (pc := 28) dX10_feed_28 rfl ?_
  refine J_getr (pc := 29) dX10_feed_29 kc10 fl_X10_10 rfl ?_
  refine J_iload_n (pc := 32) dX10_feed_32 rfl ?_
  refine J_cnv (pc := 33) (N := mX8_put) dX10_feed_33 ml_X10_103 cf_X8_put cv_X8_put (r_X8_put t2 (by omega)) rfl rfl (Nat.le_of_ble_eq_true rfl) (by decide) (rv_of (ci := 8) rfl rfl rfl) ?_
  refine J_aload_n (pc := 36) dX10_feed_36 rfl ?_
  refine J_getr (pc := 37) dX10_feed_37 kc10 fl_X10_10 rfl ?_
  refine J_iload (pc := 40) dX10_feed_40 rfl ?_
  refine J_cnv (pc := 42) (N := mX8_put) dX10_feed_42 ml_X10_103 cf_X8_put cv_X8_put (r_X8_put t3 (by omega)) rfl rfl (Nat.le_of_ble_eq_true rfl) (by decide) (rv_of (ci := 8) rfl rfl rfl) ?_
  refine J_aload_n (pc := 45) dX10_feed_45 rfl ?_
  refine J_getr (pc := 46) dX10_feed_46 kc10 fl_X10_10 rfl ?_
  refine J_iload (pc := 49) dX10_feed_49 rfl ?_
  refine J_cnv (pc := 51) (N := mX8_put) dX10_feed_51 ml_X10_103 cf_X8_put cv_X8_put (r_X8_put t4 (by omega)) rfl rfl (Nat.le_of_ble_eq_true rfl) (by decide) (rv_of (ci := 8) rfl rfl rfl) ?_
  refine J_aload_n (pc := 54) dX10_feed_54 rfl ?_
  refine J_getr (pc := 55) dX10_feed_55 kc10 fl_X10_10 rfl ?_
  refine J_getiN (pc := 58) dX10_feed_58 kc8 fl_X10_107 rfl ?_
  refine J_t1 t5 ?_
  exact J_iret (pc := 61) rfl rfl rfl dX10_feed_61 (rq hQ rfl rfl)
theorem r_X10_feed_no {g : Gp} {S : Sx} {a b c d e : Int32} {t : Nat} (ht : sf S 1 1 = nI t) (h : t ≤ 600) (h6 : ¬ t + 20 ≤ 600) : RT g mX10_feed 1 [.ref 0, .int a, .int b, .int c, .int d, .int e] S (some (.int (-1))) S := by
  refine RT_ofQ ⟨rfl, rfl⟩ (Nat.le_of_ble_eq_true rfl) (fun sz Q hQ => ?_)
  refine J_aload_n (pc := 0) dX10_feed_0 rfl ?_
  refine J_getr (pc := 1) dX10_feed_1 kc10 fl_X10_10 rfl ?_
  refine J_cnr (pc := 4) (N := mX8_hasRoom) dX10_feed_4 ml_X10_99 cf_X8_hasRoom cv_X8_hasRoom (r_X8_hasRoom ht h) rfl rfl (Nat.le_of_ble_eq_true rfl) (by decide) (rv_of (ci := 8) rfl rfl rfl) ?_
  refine J_ifp_ne (pc := 7) (tgt := 12) dX10_feed_7 (by decide) (fun c7 => absurd c7 h6) (fun c7 => ?_)
  refine J_iconst (pc := 10) (v := -1) dX10_feed_10 (by decide) ?_
  exact J_iret (pc := 11) rfl rfl rfl dX10_feed_11 (rq hQ rfl rfl)
theorem r_X10_fault2 {g : Gp} {S : Sx}  : RT g mX10_fault 0 [.ref 0] S (some (.int (sf S 1 6))) S := by
  refine RT_ofQ ⟨rfl, rfl⟩ (Nat.le_of_ble_eq_true rfl) (fun sz Q hQ => ?_)
  refine J_aload_n (pc := 0) dX10_fault_0 rfl ?_
  refine J_getr (pc := 1) dX10_fault_1 kc10 fl_X10_10 rfl ?_
  refine J_getiN (pc := 4) dX10_fault_4 kc8 fl_X10_171 rfl ?_
  exact J_iret (pc := 7) rfl rfl rfl dX10_fault_7 (rq hQ rfl rfl)
