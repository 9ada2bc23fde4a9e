/-! ===== the model's house ===== -/
def FRM (F : Nat → Nat → Bool) (A : Nat → Bool) (S X : Sx) : Prop := (∀ a k, F a k = false → sf X a k = sf S a k) ∧ sp X = sp S ∧ (∀ a, A a = false → sa X a = sa S a)
theorem FRM_r (F : Nat → Nat → Bool) (A : Nat → Bool) (S : Sx) : FRM F A S S := ⟨fun _ _ _ => rfl, rfl, fun _ _ => rfl⟩
theorem FRM_t {F : Nat → Nat → Bool} {A : Nat → Bool} {S X Y : Sx} (h : FRM F A S X) (h' : FRM F A X Y) : FRM F A S Y := ⟨fun a k q => (h'.1 a k q).trans (h.1 a k q), h'.2.1.trans h.2.1, fun a q => (h'.2.2 a q).trans (h.2.2 a q)⟩
theorem FRM_F {F : Nat → Nat → Bool} {A : Nat → Bool} {S X : Sx} (h : FRM F A S X) {a k : Nat} {v : Int32} (ha : F a k = true) : FRM F A S (sF X a k v) := ⟨fun b j q => by
  have : sf (sF X a k v) b j = sf X b j := by
    show up2 (sf X) a k v b j = _
    unfold up2
    by_cases e : b = a
    · by_cases e2 : j = k
      · subst e; subst e2; rw [ha] at q; cases q
      · rw [if_pos e, if_neg e2]
    · rw [if_neg e]
  rw [this]
  exact h.1 b j q, h.2.1, h.2.2⟩
theorem FRM_A {F : Nat → Nat → Bool} {A : Nat → Bool} {S X : Sx} (h : FRM F A S X) {a k : Nat} {v : Int32} (ha : A a = true) : FRM F A S (sA X a k v) := ⟨h.1, h.2.1, fun b q => (up2_o (fun e => by subst e; rw [ha] at q; cases q)).trans (h.2.2 b q)⟩
theorem FRM_mono {F F' : Nat → Nat → Bool} {A A' : Nat → Bool} {S X : Sx} (h : FRM F A S X) (hF : ∀ a k, F' a k = false → F a k = false) (hA : ∀ a, A' a = false → A a = false) : FRM F' A' S X := ⟨fun a k q => h.1 a k (hF a k q), h.2.1, fun a q => h.2.2 a (hA a q)⟩
/-- what a reading may leave otherwise -/
def pfF (a k : Nat) : Bool := a == 59 && ((1 ≤ k && k ≤ 8) || k == 22 || k == 34)
def pfA (a : Nat) : Bool := hA a || (270 ≤ a && a < 430) || (442 ≤ a && a < 452) || (455 ≤ a && a < 535)
/-- what a house that is given leaves otherwise -/
def hgF (a k : Nat) : Bool := pfF a k || (a == 59 && (k == 21 || (35 ≤ k && k ≤ 38)))
def hgA (a : Nat) : Bool := pfA a || a == 63 || a == 65 || a == 67 || (80 ≤ a && a < 90) || (100 ≤ a && a < 108) || a == 535
theorem FRM_ps {F : Nat → Nat → Bool} {A : Nat → Bool} {S Y : Sx} {t : PT} (h4 : F 59 4 = true) (h5 : F 59 5 = true) (h6 : F 59 6 = true) (h : FRM F A S Y) : FRM F A S (ps Y t) := ⟨fun a k q => by
  have : sf (ps Y t) a k = sf Y a k := by
    show (if a = 59 then _ else sf Y a k) = _
    by_cases e : a = 59
    · rw [if_pos e, if_neg (fun z => by subst e; subst z; rw [h4] at q; cases q), if_neg (fun z => by subst e; subst z; rw [h5] at q; cases q), if_neg (fun z => by subst e; subst z; rw [h6] at q; cases q)]
    · rw [if_neg e]
  rw [this]
  exact h.1 a k q, h.2.1, h.2.2⟩
theorem FRM_st {A : Nat → Bool} (S : Sx) (n : Nat) : FRM pfF A S (stS S n) := FRM_F (FRM_F (FRM_F (FRM_F (FRM_r pfF A S) rfl) rfl) rfl) rfl
theorem HO_FRM {S Y : Sx} (h : HO S Y) : FRM pfF pfA S Y := ⟨fun a k q => h.1 a k (fun e => by obtain ⟨e1, e2⟩ := e; subst e1; subst e2; cases q), h.2.1, fun a q => h.2.2.1 a (by unfold pfA at q; cases e : hA a; (rfl); (rw [e] at q; cases q))⟩
theorem FRM_hg {S X : Sx} (h : FRM pfF pfA S X) : FRM hgF hgA S X := FRM_mono h (fun a k q => by unfold hgF at q; cases e : pfF a k; (rfl); (rw [e] at q; cases q)) (fun a q => by unfold hgA at q; cases e : pfA a; (rfl); (rw [e] at q; cases q))
/-- the same, and the law's long stays -/
def FRL (F : Nat → Nat → Bool) (A : Nat → Bool) (S X : Sx) : Prop := FRM F A S X ∧ sl X = sl S
theorem FRL_r (F : Nat → Nat → Bool) (A : Nat → Bool) (S : Sx) : FRL F A S S := ⟨FRM_r F A S, rfl⟩
theorem FRL_t {F : Nat → Nat → Bool} {A : Nat → Bool} {S X Y : Sx} (h : FRL F A S X) (h' : FRL F A X Y) : FRL F A S Y := ⟨FRM_t h.1 h'.1, h'.2.trans h.2⟩
theorem FRL_F {F : Nat → Nat → Bool} {A : Nat → Bool} {S X : Sx} (h : FRL F A S X) {a k : Nat} {v : Int32} (ha : F a k = true) : FRL F A S (sF X a k v) := ⟨FRM_F h.1 ha, h.2⟩
theorem FRL_A {F : Nat → Nat → Bool} {A : Nat → Bool} {S X : Sx} (h : FRL F A S X) {a k : Nat} {v : Int32} (ha : A a = true) : FRL F A S (sA X a k v) := ⟨FRM_A h.1 ha, h.2⟩
theorem FRL_mono {F F' : Nat → Nat → Bool} {A A' : Nat → Bool} {S X : Sx} (h : FRL F A S X) (hF : ∀ a k, F' a k = false → F a k = false) (hA : ∀ a, A' a = false → A a = false) : FRL F' A' S X := ⟨FRM_mono h.1 hF hA, h.2⟩
theorem FRL_ps {F : Nat → Nat → Bool} {A : Nat → Bool} {S Y : Sx} {t : PT} (h4 : F 59 4 = true) (h5 : F 59 5 = true) (h6 : F 59 6 = true) (h : FRL F A S Y) : FRL F A S (ps Y t) := ⟨FRM_ps h4 h5 h6 h.1, h.2⟩
theorem FRL_st {A : Nat → Bool} (S : Sx) (n : Nat) : FRL pfF A S (stS S n) := ⟨FRM_st S n, rfl⟩
theorem HO_FRL {S Y : Sx} (h : HO S Y) : FRL pfF pfA S Y := ⟨HO_FRM h, h.2.2.2.1⟩
theorem FRL_hg {S X : Sx} (h : FRL pfF pfA S X) : FRL hgF hgA S X := ⟨FRM_hg h.1, h.2⟩
/-- what a house tells, as the model holds it -/
def HG (X : Sx) (d : HD) : Prop := sa X 63 0 = nI d.1.length ∧ sa X 63 1 = nI d.2.2.1.length ∧ sa X 63 2 = nI d.2.2.2.length ∧ (∀ i, i < d.1.length → sa X 65 i = nI (d.1.getD i 0)) ∧ (∀ i, i < 8 → sa X 67 i = ov (d.2.1 i)) ∧ (∀ i, i < d.2.2.1.length → sa X (80 + i) 0 = nI (d.2.2.1.getD i (0, 0, 0)).1 ∧ sa X (80 + i) 1 = nI (d.2.2.1.getD i (0, 0, 0)).2.1 ∧ sa X (80 + i) 2 = nI (d.2.2.1.getD i (0, 0, 0)).2.2) ∧ (∀ i, i < d.2.2.2.length → sa X (100 + i) 0 = nI (d.2.2.2.getD i (0, 0)).1 ∧ sa X (100 + i) 1 = nI (d.2.2.2.getD i (0, 0)).2)
/-- a fresh start of all that work changes -/
def HZ (X : Sx) : Prop := (∀ k, k < 45 → sa X 535 k = if (16 ≤ k ∧ k < 26) ∨ (36 ≤ k ∧ k < 44) then -1 else 0) ∧ sf X 59 21 = 0 ∧ sf X 59 35 = 0 ∧ sf X 59 36 = 0 ∧ sf X 59 37 = 0 ∧ sf X 59 38 = 0
theorem bgA_o (S : Sx) (nr np : Nat) {b : Nat} (h1 : b ≠ 63) (h2 : b ≠ 65) (h3 : b ≠ 67) (h4 : b < 80 ∨ 80 + nr < b) (h5 : b < 100 ∨ 100 + np < b) (h6 : b ≠ 535) : sa (bgA S nr np) b = sa S b := by
  unfold bgA
  rw [fl_o _ _ _ h6, fl_o _ _ _ h6, fl_o _ _ _ h6, ly_o h5, ly_o h4, cp2_o _ h2 h3, cpS_o _ h1]
theorem bgS_a (S : Sx) (nr np : Nat) : sa (bgS S nr np) = sa (bgA S nr np) := by
  unfold bgS
  generalize bgA S nr np = Z
  rfl
theorem bgS_0 (S : Sx) (nr np : Nat) : sf (bgS S nr np) 59 21 = 0 ∧ sf (bgS S nr np) 59 35 = 0 ∧ sf (bgS S nr np) 59 36 = 0 ∧ sf (bgS S nr np) 59 37 = 0 ∧ sf (bgS S nr np) 59 38 = 0 := by
  unfold bgS
  generalize bgA S nr np = Z
  exact ⟨rfl, rfl, rfl, rfl, rfl⟩
theorem bgS_1 (S : Sx) (nr np : Nat) : sf (bgS S nr np) 59 1 = sf (bgA S nr np) 59 1 ∧ sf (bgS S nr np) 59 3 = sf (bgA S nr np) 59 3 := by
  unfold bgS
  generalize bgA S nr np = Z
  exact ⟨rfl, rfl⟩
theorem ly_f (S : Sx) (a0 b0 w k i : Nat) : sf (lyS S a0 b0 w k i) = sf S := rfl
theorem ly_p (S : Sx) (a0 b0 w k i : Nat) : sp (lyS S a0 b0 w k i) = sp S := rfl
theorem bgA_f (S : Sx) (nr np : Nat) : sf (bgA S nr np) = sf S := by
  unfold bgA
  rw [fl_f, fl_f, fl_f, ly_f, ly_f, cp2_f, cpS_f]
theorem bgA_p (S : Sx) (nr np : Nat) : sp (bgA S nr np) = sp S := by
  unfold bgA
  rw [fl_p, fl_p, fl_p, ly_p, ly_p, cp2_p, cpS_p]
theorem bg_HG {S : Sx} {d : HD} (h : HM S d) : HG (bgS S d.2.2.1.length d.2.2.2.length) d := by
  obtain ⟨h1, h2, h3, h4, h5, h6, h7, h8, h9, h10⟩ := h
  obtain ⟨nr, hnr⟩ : ∃ x, x = d.2.2.1.length := ⟨_, rfl⟩
  obtain ⟨np, hnp⟩ : ∃ x, x = d.2.2.2.length := ⟨_, rfl⟩
  rw [← hnr, ← hnp]
  rw [← hnr] at h2 h5 h9
  rw [← hnp] at h3 h6 h10
  have e63 : ∀ k, k < 3 → sa (bgA S nr np) 63 k = sa S 62 k := fun k hk => by
    unfold bgA
    rw [fl_o _ _ _ (by decide), fl_o _ _ _ (by decide), fl_o _ _ _ (by decide), ly_o (by omega), ly_o (by omega), cp2_o _ (by decide) (by decide), cpS_s _ (by decide), if_pos hk]
  have e65 : ∀ k, k < 8 → sa (bgA S nr np) 65 k = sa S 64 k := fun k hk => by
    unfold bgA
    rw [fl_o _ _ _ (by decide), fl_o _ _ _ (by decide), fl_o _ _ _ (by decide), ly_o (by omega), ly_o (by omega), cp2_65, if_pos hk, cpS_o _ (by decide)]
  have e67 : ∀ k, k < 8 → sa (bgA S nr np) 67 k = sa S 66 k := fun k hk => by
    unfold bgA
    rw [fl_o _ _ _ (by decide), fl_o _ _ _ (by decide), fl_o _ _ _ (by decide), ly_o (by omega), ly_o (by omega), cp2_67, if_pos hk, cpS_o _ (by decide)]
  have e80 : ∀ i j, i < nr → j < 3 → sa (bgA S nr np) (80 + i) j = sa S (69 + i) j := fun i j hi hj => by
    unfold bgA
    rw [fl_o _ _ _ (by omega), fl_o _ _ _ (by omega), fl_o _ _ _ (by omega), ly_o (by omega)]
    show lyA (sa (cp2 (cpS S 62 63 3) 8)) 69 80 3 nr 0 (80 + i) j = _
    unfold lyA
    rw [if_pos (by omega), show 69 + (80 + i - 80) = 69 + i by omega, cp2_o _ (by omega) (by omega), cpS_o _ (by omega)]
  have e100 : ∀ i j, i < np → j < 2 → sa (bgA S nr np) (100 + i) j = sa S (91 + i) j := fun i j hi hj => by
    unfold bgA
    rw [fl_o _ _ _ (by omega), fl_o _ _ _ (by omega), fl_o _ _ _ (by omega)]
    show lyA (sa (lyS (cp2 (cpS S 62 63 3) 8) 69 80 3 nr 0)) 91 100 2 np 0 (100 + i) j = _
    unfold lyA
    rw [if_pos (by omega), show 91 + (100 + i - 100) = 91 + i by omega, ly_o (by omega), cp2_o _ (by omega) (by omega), cpS_o _ (by omega)]
  unfold HG
  rw [bgS_a]
  generalize bgA S nr np = Z at e63 e65 e67 e80 e100 ⊢
  refine ⟨(e63 0 (by decide)).trans h1, (e63 1 (by decide)).trans (by rw [h2, hnr]), (e63 2 (by decide)).trans (by rw [h3, hnp]), fun i hi => (e65 i (by omega)).trans (h7 i hi), fun i hi => (e67 i hi).trans (h8 i hi), fun i hi => ?_, fun i hi => ?_⟩
  · rw [← hnr] at hi
    have := h9 i hi
    exact ⟨(e80 i 0 hi (by decide)).trans this.1, (e80 i 1 hi (by decide)).trans this.2.1, (e80 i 2 hi (by decide)).trans this.2.2⟩
  · rw [← hnp] at hi
    have := h10 i hi
    exact ⟨(e100 i 0 hi (by decide)).trans this.1, (e100 i 1 hi (by decide)).trans this.2⟩
theorem bg_HZ (S : Sx) (nr np : Nat) : HZ (bgS S nr np) := by
  refine ⟨fun k hk => ?_, bgS_0 S nr np⟩
  rw [bgS_a]
  unfold bgA
  rw [fl_s, fl_s, fl_s]
  by_cases h1 : 36 ≤ k ∧ k < 36 + 8
  · rw [if_pos h1, if_pos (by omega)]
  · rw [if_neg h1]
    by_cases h2 : 16 ≤ k ∧ k < 16 + 10
    · rw [if_pos h2, if_pos (by omega)]
    · rw [if_neg h2, if_pos (by omega), if_neg (by omega)]
theorem bg_FRM {S : Sx} {nr np : Nat} (h1 : nr ≤ 10) (h2 : np ≤ 8) : FRM hgF hgA S (bgS S nr np) := by
  have hf := bgA_f S nr np
  have hp := bgA_p S nr np
  have hb : FRM hgF hgA S (bgA S nr np) := ⟨fun a k _ => by rw [hf], hp, fun a q => by
    by_cases e1 : a = 63 ∨ a = 65 ∨ a = 67 ∨ a = 535
    · rcases e1 with e | e | e | e <;> subst e <;> cases q
    · by_cases e2 : 80 ≤ a ∧ a < 90
      · have : ∀ i, i < 10 → hgA (80 + i) = true := by decide
        have := this (a - 80) (by omega)
        rw [show 80 + (a - 80) = a by omega, q] at this
        cases this
      · by_cases e3 : 100 ≤ a ∧ a < 108
        · have : ∀ i, i < 8 → hgA (100 + i) = true := by decide
          have := this (a - 100) (by omega)
          rw [show 100 + (a - 100) = a by omega, q] at this
          cases this
        · by_cases e4 : a = 90
          · subst e4
            unfold bgA
            rw [fl_o _ _ _ (by decide), fl_o _ _ _ (by decide), fl_o _ _ _ (by decide), ly_o (by omega)]
            have : sa (lyS (cp2 (cpS S 62 63 3) 8) 69 80 3 nr 0) 90 = sa (cp2 (cpS S 62 63 3) 8) 90 := by
              funext j
              show lyA (sa (cp2 (cpS S 62 63 3) 8)) 69 80 3 nr 0 90 j = _
              unfold lyA
              rw [if_neg (by omega)]
            rw [this, cp2_o _ (by decide) (by decide), cpS_o _ (by decide)]
          · by_cases e5 : a = 108
            · subst e5
              unfold bgA
              rw [fl_o _ _ _ (by decide), fl_o _ _ _ (by decide), fl_o _ _ _ (by decide)]
              have : sa (lyS (lyS (cp2 (cpS S 62 63 3) 8) 69 80 3 nr 0) 91 100 2 np 0) 108 = sa (lyS (cp2 (cpS S 62 63 3) 8) 69 80 3 nr 0) 108 := by
                funext j
                show lyA (sa (lyS (cp2 (cpS S 62 63 3) 8) 69 80 3 nr 0)) 91 100 2 np 0 108 j = _
                unfold lyA
                rw [if_neg (by omega)]
              rw [this, ly_o (by omega), cp2_o _ (by decide) (by decide), cpS_o _ (by decide)]
            · exact bgA_o S nr np (by omega) (by omega) (by omega) (by omega) (by omega) (by omega)⟩
  unfold bgS
  generalize bgA S nr np = Z at hb ⊢
  exact FRM_F (FRM_F (FRM_F (FRM_F (FRM_F hb rfl) rfl) rfl) rfl) rfl
theorem fl_l (S : Sx) (a o : Nat) (v : Int32) : ∀ i, sl (flS S a o v i) = sl S
  | 0 => rfl
  | i + 1 => fl_l S a o v i
theorem cp2_l (S : Sx) : ∀ i, sl (cp2 S i) = sl S
  | 0 => rfl
  | i + 1 => cp2_l S i
theorem cpS_l (S : Sx) (b a : Nat) : ∀ i, sl (cpS S b a i) = sl S
  | 0 => rfl
  | i + 1 => cpS_l S b a i
theorem ly_l (S : Sx) (a0 b0 w k i : Nat) : sl (lyS S a0 b0 w k i) = sl S := rfl
theorem bgA_l (S : Sx) (nr np : Nat) : sl (bgA S nr np) = sl S := by
  unfold bgA
  rw [fl_l, fl_l, fl_l, ly_l, ly_l, cp2_l, cpS_l]
theorem bg_FRL {S : Sx} {nr np : Nat} (h1 : nr ≤ 10) (h2 : np ≤ 8) : FRL hgF hgA S (bgS S nr np) := ⟨bg_FRM h1 h2, (show sl (bgS S nr np) = sl (bgA S nr np) from rfl).trans (bgA_l S nr np)⟩
def hd0 : HD := ([], fun _ => none, [], [])
theorem HM_nil (S : Sx) : HM (flS (flS S 62 0 0 3) 66 0 (-1) 8) hd0 := by
  have e : ∀ k, k < 3 → sa (flS (flS S 62 0 0 3) 66 0 (-1) 8) 62 k = 0 := fun k hk => by
    rw [fl_o _ _ _ (by decide), fl_s, if_pos (by omega)]
  refine ⟨e 0 (by decide), e 1 (by decide), e 2 (by decide), by decide, by decide, by decide, fun i hi => absurd hi (Nat.not_lt_zero i), fun i hi => ?_, fun i hi => absurd hi (Nat.not_lt_zero i), fun i hi => absurd hi (Nat.not_lt_zero i)⟩
  rw [fl_s, if_pos (by omega)]
  rfl
theorem HO_fl {S Y : Sx} (h : HO S Y) {a : Nat} (ha : hA a = true) (o : Nat) (v : Int32) : ∀ i, HO S (flS Y a o v i)
  | 0 => h
  | i + 1 => HO_A (HO_fl h ha o v i) ha
theorem r_X11_house_er {g : Gp} {S : Sx} {x : Int32} {tp : Nat} (ht : sf S 59 1 = nI tp) (hv : ¬ (0 ≤ x ∧ x ≤ nI tp)) : RT g mX11_house 2 [.ref 59, .int x] S (some (.int 0)) (er S 1 1) := by
  refine RT_ofQ ⟨rfl, rfl⟩ (Nat.le_of_ble_eq_true rfl) (fun sz Q hQ => ?_)
  refine J_aload_n (pc := 0) dX11_house_0 rfl ?_
  refine J_iconst (pc := 1) (v := 0) dX11_house_1 (by decide) ?_
  refine J_puti (pc := 2) dX11_house_2 kc11 fl_X11_103 rfl ⟨rfl, rfl⟩ ?_
  refine J_aload_n (pc := 5) dX11_house_5 rfl ?_
  refine J_iload_n (pc := 6) dX11_house_6 rfl ?_
  refine J_iconst (pc := 7) (v := 0) dX11_house_7 (by decide) ?_
  refine J_aload_n (pc := 8) dX11_house_8 rfl ?_
  refine J_geti (pc := 9) dX11_house_9 kc11 fl_X11_106 rfl ?_
  refine J_t1 ht ?_
  refine J_csr (pc := 12) (N := mX11_in) dX11_house_12 ml_X11_137 cf_X11_in cs_X11_in r_X11_in rfl rfl (Nat.le_of_ble_eq_true rfl) (by decide) ?_
  refine J_ifp_ne (pc := 15) (tgt := 22) dX11_house_15 (by decide) (fun c15 => absurd c15 hv) (fun c15 => ?_)
  refine J_iconst (pc := 18) (v := 1) dX11_house_18 (by decide) ?_
  refine J_goto (pc := 19) (tgt := 23) dX11_house_19 (by decide) ?_
  refine J_iconst (pc := 23) (v := 1) dX11_house_23 (by decide) ?_
  refine J_iconst (pc := 24) (v := 1) dX11_house_24 (by decide) ?_
  refine J_cvr (pc := 25) (N := mX11_bad) dX11_house_25 ml_X11_183 cf_X11_bad cv_X11_bad (r_X11_bad_t (k := 1) rfl (by decide) (by decide) rfl) rfl rfl (Nat.le_of_ble_eq_true rfl) (by decide) (rv_of (ci := 11) rfl rfl rfl) ?_
  refine J_if_eq (pc := 28) (tgt := 33) dX11_house_28 (by decide) (fun c28 => absurd c28 (by decide)) (fun c28 => ?_)
  refine J_iconst (pc := 31) (v := 0) dX11_house_31 (by decide) ?_
  exact J_iret (pc := 32) rfl rfl rfl dX11_house_32 (rq hQ (by first | rfl | simp [bI, *] | simp_all [bI]) rfl)
theorem r_X11_house_bad {g : Gp} {S : Sx} {n tp f : Nat} {cc : Nat → Nat} {s : HS} (ht : sf S 59 1 = nI tp) (h6 : tp ≤ 600) (hnt : n ≤ tp) (hF : FD S n cc) (hr : hlp cc n f ((pbl cc n 0, 0, 0), 0, hd0) = some s) (hb : s.1.2.1 ≠ 0) : RI g mX11_house 8 [.ref 59, .int (nI n)] S (fun x X => x = nI s.1.2.1 - 10 ∧ FRL pfF pfA (S0 S) X ∧ sf X 59 1 = 0 ∧ sf X 59 3 = nI s.1.2.2) := by
  refine RI_ofQ ⟨rfl, rfl⟩ (Nat.le_of_ble_eq_true rfl) (fun sz Q hQ => ?_)
  have hx := FD_TX hF
  have hn6 := hx.2.1
  have hfl : ∀ t, flS (flS (ps (stS (S0 S) n) t) 62 0 0 3) 66 0 (-1) 8 = ps (flS (flS (stS (S0 S) n) 62 0 0 3) 66 0 (-1) 8) t := fun _ => rfl
  have hO0 : HO (stS (S0 S) n) (flS (flS (stS (S0 S) n) 62 0 0 3) 66 0 (-1) 8) := HO_fl (HO_fl (HO_r _) rfl 0 0 3) rfl 0 (-1) 8
  have hM0 : HM (flS (flS (stS (S0 S) n) 62 0 0 3) 66 0 (-1) 8) hd0 := HM_nil _
  have h70 : sf (flS (flS (stS (S0 S) n) 62 0 0 3) 66 0 (-1) 8) 59 7 = nI 0 := by rw [fl_f, fl_f]; rfl
  obtain ⟨B, hB⟩ : ∃ B, B = (stS (S0 S) n) := ⟨_, rfl⟩
  refine J_aload_n (pc := 0) dX11_house_0 rfl ?_
  refine J_iconst (pc := 1) (v := 0) dX11_house_1 (by decide) ?_
  refine J_puti (pc := 2) dX11_house_2 kc11 fl_X11_103 rfl ⟨rfl, rfl⟩ ?_
  refine J_aload_n (pc := 5) dX11_house_5 rfl ?_
  refine J_iload_n (pc := 6) dX11_house_6 rfl ?_
  refine J_iconst (pc := 7) (v := 0) dX11_house_7 (by decide) ?_
  refine J_aload_n (pc := 8) dX11_house_8 rfl ?_
  refine J_geti (pc := 9) dX11_house_9 kc11 fl_X11_106 rfl ?_
  refine J_t1 ht ?_
  refine J_csr (pc := 12) (N := mX11_in) dX11_house_12 ml_X11_137 cf_X11_in cs_X11_in r_X11_in rfl rfl (Nat.le_of_ble_eq_true rfl) (by decide) ?_
  refine J_ifp_ne (pc := 15) (tgt := 22) dX11_house_15 (by decide) (fun c15 => ?_) (fun c15 => absurd (inw2 (a := 0) (b := tp) rfl rfl (Nat.zero_le _) hnt (by omega)) c15)
  refine J_iconst (pc := 22) (v := 0) dX11_house_22 (by decide) ?_
  refine J_iconst (pc := 23) (v := 1) dX11_house_23 (by decide) ?_
  refine J_iconst (pc := 24) (v := 1) dX11_house_24 (by decide) ?_
  refine J_cvr (pc := 25) (N := mX11_bad) dX11_house_25 ml_X11_183 cf_X11_bad cv_X11_bad (r_X11_bad_f rfl) rfl rfl (Nat.le_of_ble_eq_true rfl) (by decide) (rv_of (ci := 11) rfl rfl rfl) ?_
  refine J_if_eq (pc := 28) (tgt := 33) dX11_house_28 (by decide) (fun c28 => ?_) (fun c28 => absurd rfl c28)
  refine J_aload_n (pc := 33) dX11_house_33 rfl ?_
  refine J_iload_n (pc := 34) dX11_house_34 rfl ?_
  refine J_cvv (pc := 35) (N := mX11_starts) dX11_house_35 ml_X11_187 cf_X11_starts cv_X11_starts (r_X11_starts (S := S0 S) hx) rfl rfl (Nat.le_of_ble_eq_true rfl) (by decide) (rv_of (ci := 11) rfl rfl rfl) ?_
  refine J_aload_n (pc := 38) dX11_house_38 rfl ?_
  refine J_cvv (pc := 39) (N := mX11_tellsNothing) dX11_house_39 ml_X11_97 cf_X11_tellsNothing cv_X11_tellsNothing (r_X11_tellsNothing (S := ps (stS (S0 S) n) (pbl cc n 0, 0, 0))) rfl rfl (Nat.le_of_ble_eq_true rfl) (by decide) (rv_of (ci := 11) rfl rfl rfl) ?_
  refine J_cg2 (hfl _) ?_
  obtain ⟨Y0, hY0⟩ : ∃ Y, Y = (flS (flS (stS (S0 S) n) 62 0 0 3) 66 0 (-1) 8) := ⟨_, rfl⟩
  rw [← hY0] at hO0 hM0 h70 ⊢
  rw [← hB] at hO0 hx
  have loop : ∀ f Y (s0 s : HS), PO n s0.1 → s0.2.1 ≤ 60 → HO B Y → (s0.1.2.1 = 0 → HM Y s0.2.2 ∧ sf Y 59 7 = nI s0.2.1) → hlp cc n f s0 = some s → (∀ Y', PO n s.1 → ¬ (s.1.2.1 = 0 ∧ s.1.1 < n) → HO B Y' → (s.1.2.1 = 0 → HM Y' s.2.2) → J g mX11_house 8 [] 71 [some (.ref 59), some (.int (nI n))] [] (hs (ps Y' s.1)) sz 0 0 Q) → J g mX11_house 8 [] 42 [some (.ref 59), some (.int (nI n))] [] (hs (ps Y s0.1)) sz 0 0 Q := by
    intro f
    induction f with
    | zero => intro Y s0 s _ _ _ _ h; cases h
    | succ f ih =>
      intro Y s0 s hp h60 hO hM h hq
      have h : (if s0.1.2.1 = 0 ∧ s0.1.1 < n then hlp cc n f ((pbl cc n (hcl cc n s0).1.1, (hcl cc n s0).1.2), (hcl cc n s0).2) else some s0) = some s := h
      have hxy := HO_TX hO hx
      have h2 : sf (ps Y s0.1) 59 2 = nI n := hxy.1
      by_cases q1 : s0.1.2.1 = 0
      · by_cases q2 : s0.1.1 < n
        · rw [if_pos ⟨q1, q2⟩] at h
          obtain ⟨m1, m2⟩ := hM q1
          have p1 := PO_hcl hx (s := s0) hp
          have e0 : s0 = ((s0.1.1, 0, s0.1.2.2), s0.2.1, s0.2.2) := by rw [← q1]
          have hc61 : (hcl cc n s0).1.2.1 = 0 → (hcl cc n s0).2.1 ≤ 60 := by
            intro z
            unfold hcl at z ⊢
            split at z
            · exact absurd z (by show ¬ 1 = 0; omega)
            · split at z
              · exact absurd z (by show ¬ 3 = 0; omega)
              · next hk hc => simp only [if_neg hc]; show s0.2.1 + 1 ≤ 60; omega
          have hcA : (hcl cc n s0).2.1 ≤ 60 := by
            unfold hcl
            split
            · exact h60
            · split
              · exact h60
              · next hc => show s0.2.1 + 1 ≤ 60; omega
          refine J_aload_n (pc := 42) dX11_house_42 rfl ?_
          refine J_geti (pc := 43) dX11_house_43 kc11 fl_X11_119 rfl ?_
          refine J_if_ne (pc := 46) (tgt := 71) dX11_house_46 (by decide) (fun c46 => absurd (show nI s0.1.2.1 = 0 by rw [q1]; rfl) c46) (fun c46 => ?_)
          refine J_aload_n (pc := 49) dX11_house_49 rfl ?_
          refine J_geti (pc := 50) dX11_house_50 kc11 fl_X11_112 rfl ?_
          refine J_aload_n (pc := 53) dX11_house_53 rfl ?_
          refine J_geti (pc := 54) dX11_house_54 kc11 fl_X11_109 rfl ?_
          refine J_t1 h2 ?_
          refine J_icmp_ge (pc := 57) (tgt := 71) dX11_house_57 (by decide) (fun c57 => absurd c57 (show ¬ nI n ≤ nI s0.1.1 from nI_ge q2 (by omega))) (fun c57 => ?_)
          refine J_aload_n (pc := 60) dX11_house_60 rfl ?_
          refine J_cg2 (S' := ps Y (s0.1.1, 0, s0.1.2.2)) (ps_same (by rw [← q1])) ?_
          refine J_cvU (pc := 61) (N := mX11_clause) dX11_house_61 ml_X11_190 cf_X11_clause cv_X11_clause (r_X11_clause (S := B) (Y := Y) (a := s0.1.1) (b := pbl cc n s0.1.1) (h := s0.1.2.2) (cl := s0.2.1) (d := s0.2.2) hx hO m1 m2 h60 hp.1 hp.2.2 rfl) rfl rfl (Nat.le_of_ble_eq_true rfl) (by decide) (rv_of (ci := 11) rfl rfl rfl) ?_
          intro X61 hX61
          rw [← e0] at hX61
          obtain ⟨Y1, hX1, hO1, hM1⟩ := hX61
          refine J_cg2 hX1 ?_
          refine J_aload_n (pc := 64) dX11_house_64 rfl ?_
          refine J_cvv (pc := 65) (N := mX11_blanks) dX11_house_65 ml_X11_125 cf_X11_blanks cv_X11_blanks (r_X11_blanks (S := Y1) (t := (hcl cc n s0).1) (HO_TX hO1 hx) p1.1) rfl rfl (Nat.le_of_ble_eq_true rfl) (by decide) (rv_of (ci := 11) rfl rfl rfl) ?_
          refine J_goto (pc := 68) (tgt := 42) dX11_house_68 (by decide) ?_
          exact ih Y1 ((pbl cc n (hcl cc n s0).1.1, (hcl cc n s0).1.2), (hcl cc n s0).2) s ⟨pbl_le cc p1.1, p1.2⟩ hcA hO1 hM1 h hq
        · rw [if_neg (fun z => q2 z.2)] at h
          cases h
          refine J_aload_n (pc := 42) dX11_house_42 rfl ?_
          refine J_geti (pc := 43) dX11_house_43 kc11 fl_X11_119 rfl ?_
          refine J_if_ne (pc := 46) (tgt := 71) dX11_house_46 (by decide) (fun c46 => absurd (show nI s0.1.2.1 = 0 by rw [q1]; rfl) c46) (fun c46 => ?_)
          refine J_aload_n (pc := 49) dX11_house_49 rfl ?_
          refine J_geti (pc := 50) dX11_house_50 kc11 fl_X11_112 rfl ?_
          refine J_aload_n (pc := 53) dX11_house_53 rfl ?_
          refine J_geti (pc := 54) dX11_house_54 kc11 fl_X11_109 rfl ?_
          refine J_t1 h2 ?_
          refine J_icmp_ge (pc := 57) (tgt := 71) dX11_house_57 (by decide) (fun c57 => ?_) (fun c57 => absurd (show nI n ≤ nI s0.1.1 from nI_le (by omega) (by have := hp.1; omega)) c57)
          exact hq Y hp (fun z => q2 z.2) hO (fun z => (hM z).1)
      · rw [if_neg (fun z => q1 z.1)] at h
        cases h
        refine J_aload_n (pc := 42) dX11_house_42 rfl ?_
        refine J_geti (pc := 43) dX11_house_43 kc11 fl_X11_119 rfl ?_
        refine J_if_ne (pc := 46) (tgt := 71) dX11_house_46 (by decide) (fun c46 => ?_) (fun c46 => absurd c46 (fun z => q1 ((nI_z hp.2.1).mp z)))
        exact hq Y hp (fun z => q1 z.1) hO (fun z => (hM z).1)
  refine loop f Y0 ((pbl cc n 0, 0, 0), 0, hd0) s ⟨pbl_le cc (Nat.zero_le _), by show 0 ≤ 3; omega, Nat.zero_le _⟩ (by show 0 ≤ 60; omega) hO0 (fun _ => ⟨hM0, h70⟩) hr (fun Y hp hx9 hO hM => ?_)
  clear loop
  have hfr : FRL pfF pfA (S0 S) Y := FRL_t (show FRL pfF pfA (S0 S) B by rw [hB]; exact FRL_st _ _) (HO_FRL hO)
  have h1z : sf Y 59 1 = 0 := (hO.1 59 1 (by omega)).trans (by rw [hB]; rfl)
  refine J_aload_n (pc := 71) dX11_house_71 rfl ?_
  refine J_geti (pc := 72) dX11_house_72 kc11 fl_X11_119 rfl ?_
  refine J_if_eq (pc := 75) (tgt := 83) dX11_house_75 (by decide) (fun c75 => absurd c75 (fun z => hb ((nI_z hp.2.1).mp z))) (fun c75 => ?_)
  refine J_aload_n (pc := 78) dX11_house_78 rfl ?_
  refine J_cvr (pc := 79) (N := mX11_ends) dX11_house_79 ml_X11_193 cf_X11_ends cv_X11_ends (r_X11_ends (S := Y) (a := s.1.1) (k := s.1.2.1) (p := s.1.2.2) hb) rfl rfl (Nat.le_of_ble_eq_true rfl) (by decide) (rv_of (ci := 11) rfl rfl rfl) ?_
  exact J_iret (pc := 82) rfl rfl rfl dX11_house_82 (hQ _ _ ⟨rfl, FRL_ps rfl rfl rfl (FRL_F hfr rfl), h1z, rfl⟩)
theorem r_X11_house {g : Gp} {S : Sx} {n tp f : Nat} {cc : Nat → Nat} {s : HS} (ht : sf S 59 1 = nI tp) (h6 : tp ≤ 600) (hnt : n ≤ tp) (hF : FD S n cc) (hr : hlp cc n f ((pbl cc n 0, 0, 0), 0, hd0) = some s) (hb : s.1.2.1 = 0) : RI g mX11_house 8 [.ref 59, .int (nI n)] S (fun x X => x = nI s.2.2.2.2.1.length ∧ FRL hgF hgA (S0 S) X ∧ sf X 59 1 = 0 ∧ sf X 59 3 = -1 ∧ HG X s.2.2 ∧ HZ X) := by
  refine RI_ofQ ⟨rfl, rfl⟩ (Nat.le_of_ble_eq_true rfl) (fun sz Q hQ => ?_)
  have hx := FD_TX hF
  have hn6 := hx.2.1
  have hfl : ∀ t, flS (flS (ps (stS (S0 S) n) t) 62 0 0 3) 66 0 (-1) 8 = ps (flS (flS (stS (S0 S) n) 62 0 0 3) 66 0 (-1) 8) t := fun _ => rfl
  have hO0 : HO (stS (S0 S) n) (flS (flS (stS (S0 S) n) 62 0 0 3) 66 0 (-1) 8) := HO_fl (HO_fl (HO_r _) rfl 0 0 3) rfl 0 (-1) 8
  have hM0 : HM (flS (flS (stS (S0 S) n) 62 0 0 3) 66 0 (-1) 8) hd0 := HM_nil _
  have h70 : sf (flS (flS (stS (S0 S) n) 62 0 0 3) 66 0 (-1) 8) 59 7 = nI 0 := by rw [fl_f, fl_f]; rfl
  obtain ⟨B, hB⟩ : ∃ B, B = (stS (S0 S) n) := ⟨_, rfl⟩
  refine J_aload_n (pc := 0) dX11_house_0 rfl ?_
  refine J_iconst (pc := 1) (v := 0) dX11_house_1 (by decide) ?_
  refine J_puti (pc := 2) dX11_house_2 kc11 fl_X11_103 rfl ⟨rfl, rfl⟩ ?_
  refine J_aload_n (pc := 5) dX11_house_5 rfl ?_
  refine J_iload_n (pc := 6) dX11_house_6 rfl ?_
  refine J_iconst (pc := 7) (v := 0) dX11_house_7 (by decide) ?_
  refine J_aload_n (pc := 8) dX11_house_8 rfl ?_
  refine J_geti (pc := 9) dX11_house_9 kc11 fl_X11_106 rfl ?_
  refine J_t1 ht ?_
  refine J_csr (pc := 12) (N := mX11_in) dX11_house_12 ml_X11_137 cf_X11_in cs_X11_in r_X11_in rfl rfl (Nat.le_of_ble_eq_true rfl) (by decide) ?_
  refine J_ifp_ne (pc := 15) (tgt := 22) dX11_house_15 (by decide) (fun c15 => ?_) (fun c15 => absurd (inw2 (a := 0) (b := tp) rfl rfl (Nat.zero_le _) hnt (by omega)) c15)
  refine J_iconst (pc := 22) (v := 0) dX11_house_22 (by decide) ?_
  refine J_iconst (pc := 23) (v := 1) dX11_house_23 (by decide) ?_
  refine J_iconst (pc := 24) (v := 1) dX11_house_24 (by decide) ?_
  refine J_cvr (pc := 25) (N := mX11_bad) dX11_house_25 ml_X11_183 cf_X11_bad cv_X11_bad (r_X11_bad_f rfl) rfl rfl (Nat.le_of_ble_eq_true rfl) (by decide) (rv_of (ci := 11) rfl rfl rfl) ?_
  refine J_if_eq (pc := 28) (tgt := 33) dX11_house_28 (by decide) (fun c28 => ?_) (fun c28 => absurd rfl c28)
  refine J_aload_n (pc := 33) dX11_house_33 rfl ?_
  refine J_iload_n (pc := 34) dX11_house_34 rfl ?_
  refine J_cvv (pc := 35) (N := mX11_starts) dX11_house_35 ml_X11_187 cf_X11_starts cv_X11_starts (r_X11_starts (S := S0 S) hx) rfl rfl (Nat.le_of_ble_eq_true rfl) (by decide) (rv_of (ci := 11) rfl rfl rfl) ?_
  refine J_aload_n (pc := 38) dX11_house_38 rfl ?_
  refine J_cvv (pc := 39) (N := mX11_tellsNothing) dX11_house_39 ml_X11_97 cf_X11_tellsNothing cv_X11_tellsNothing (r_X11_tellsNothing (S := ps (stS (S0 S) n) (pbl cc n 0, 0, 0))) rfl rfl (Nat.le_of_ble_eq_true rfl) (by decide) (rv_of (ci := 11) rfl rfl rfl) ?_
  refine J_cg2 (hfl _) ?_
  obtain ⟨Y0, hY0⟩ : ∃ Y, Y = (flS (flS (stS (S0 S) n) 62 0 0 3) 66 0 (-1) 8) := ⟨_, rfl⟩
  rw [← hY0] at hO0 hM0 h70 ⊢
  rw [← hB] at hO0 hx
  have loop : ∀ f Y (s0 s : HS), PO n s0.1 → s0.2.1 ≤ 60 → HO B Y → (s0.1.2.1 = 0 → HM Y s0.2.2 ∧ sf Y 59 7 = nI s0.2.1) → hlp cc n f s0 = some s → (∀ Y', PO n s.1 → ¬ (s.1.2.1 = 0 ∧ s.1.1 < n) → HO B Y' → (s.1.2.1 = 0 → HM Y' s.2.2) → J g mX11_house 8 [] 71 [some (.ref 59), some (.int (nI n))] [] (hs (ps Y' s.1)) sz 0 0 Q) → J g mX11_house 8 [] 42 [some (.ref 59), some (.int (nI n))] [] (hs (ps Y s0.1)) sz 0 0 Q := by
    intro f
    induction f with
    | zero => intro Y s0 s _ _ _ _ h; cases h
    | succ f ih =>
      intro Y s0 s hp h60 hO hM h hq
      have h : (if s0.1.2.1 = 0 ∧ s0.1.1 < n then hlp cc n f ((pbl cc n (hcl cc n s0).1.1, (hcl cc n s0).1.2), (hcl cc n s0).2) else some s0) = some s := h
      have hxy := HO_TX hO hx
      have h2 : sf (ps Y s0.1) 59 2 = nI n := hxy.1
      by_cases q1 : s0.1.2.1 = 0
      · by_cases q2 : s0.1.1 < n
        · rw [if_pos ⟨q1, q2⟩] at h
          obtain ⟨m1, m2⟩ := hM q1
          have p1 := PO_hcl hx (s := s0) hp
          have e0 : s0 = ((s0.1.1, 0, s0.1.2.2), s0.2.1, s0.2.2) := by rw [← q1]
          have hc61 : (hcl cc n s0).1.2.1 = 0 → (hcl cc n s0).2.1 ≤ 60 := by
            intro z
            unfold hcl at z ⊢
            split at z
            · exact absurd z (by show ¬ 1 = 0; omega)
            · split at z
              · exact absurd z (by show ¬ 3 = 0; omega)
              · next hk hc => simp only [if_neg hc]; show s0.2.1 + 1 ≤ 60; omega
          have hcA : (hcl cc n s0).2.1 ≤ 60 := by
            unfold hcl
            split
            · exact h60
            · split
              · exact h60
              · next hc => show s0.2.1 + 1 ≤ 60; omega
          refine J_aload_n (pc := 42) dX11_house_42 rfl ?_
          refine J_geti (pc := 43) dX11_house_43 kc11 fl_X11_119 rfl ?_
          refine J_if_ne (pc := 46) (tgt := 71) dX11_house_46 (by decide) (fun c46 => absurd (show nI s0.1.2.1 = 0 by rw [q1]; rfl) c46) (fun c46 => ?_)
          refine J_aload_n (pc := 49) dX11_house_49 rfl ?_
          refine J_geti (pc := 50) dX11_house_50 kc11 fl_X11_112 rfl ?_
          refine J_aload_n (pc := 53) dX11_house_53 rfl ?_
          refine J_geti (pc := 54) dX11_house_54 kc11 fl_X11_109 rfl ?_
          refine J_t1 h2 ?_
          refine J_icmp_ge (pc := 57) (tgt := 71) dX11_house_57 (by decide) (fun c57 => absurd c57 (show ¬ nI n ≤ nI s0.1.1 from nI_ge q2 (by omega))) (fun c57 => ?_)
          refine J_aload_n (pc := 60) dX11_house_60 rfl ?_
          refine J_cg2 (S' := ps Y (s0.1.1, 0, s0.1.2.2)) (ps_same (by rw [← q1])) ?_
          refine J_cvU (pc := 61) (N := mX11_clause) dX11_house_61 ml_X11_190 cf_X11_clause cv_X11_clause (r_X11_clause (S := B) (Y := Y) (a := s0.1.1) (b := pbl cc n s0.1.1) (h := s0.1.2.2) (cl := s0.2.1) (d := s0.2.2) hx hO m1 m2 h60 hp.1 hp.2.2 rfl) rfl rfl (Nat.le_of_ble_eq_true rfl) (by decide) (rv_of (ci := 11) rfl rfl rfl) ?_
          intro X61 hX61
          rw [← e0] at hX61
          obtain ⟨Y1, hX1, hO1, hM1⟩ := hX61
          refine J_cg2 hX1 ?_
          refine J_aload_n (pc := 64) dX11_house_64 rfl ?_
          refine J_cvv (pc := 65) (N := mX11_blanks) dX11_house_65 ml_X11_125 cf_X11_blanks cv_X11_blanks (r_X11_blanks (S := Y1) (t := (hcl cc n s0).1) (HO_TX hO1 hx) p1.1) rfl rfl (Nat.le_of_ble_eq_true rfl) (by decide) (rv_of (ci := 11) rfl rfl rfl) ?_
          refine J_goto (pc := 68) (tgt := 42) dX11_house_68 (by decide) ?_
          exact ih Y1 ((pbl cc n (hcl cc n s0).1.1, (hcl cc n s0).1.2), (hcl cc n s0).2) s ⟨pbl_le cc p1.1, p1.2⟩ hcA hO1 hM1 h hq
        · rw [if_neg (fun z => q2 z.2)] at h
          cases h
          refine J_aload_n (pc := 42) dX11_house_42 rfl ?_
          refine J_geti (pc := 43) dX11_house_43 kc11 fl_X11_119 rfl ?_
          refine J_if_ne (pc := 46) (tgt := 71) dX11_house_46 (by decide) (fun c46 => absurd (show nI s0.1.2.1 = 0 by rw [q1]; rfl) c46) (fun c46 => ?_)
          refine J_aload_n (pc := 49) dX11_house_49 rfl ?_
          refine J_geti (pc := 50) dX11_house_50 kc11 fl_X11_112 rfl ?_
          refine J_aload_n (pc := 53) dX11_house_53 rfl ?_
          refine J_geti (pc := 54) dX11_house_54 kc11 fl_X11_109 rfl ?_
          refine J_t1 h2 ?_
          refine J_icmp_ge (pc := 57) (tgt := 71) dX11_house_57 (by decide) (fun c57 => ?_) (fun c57 => absurd (show nI n ≤ nI s0.1.1 from nI_le (by omega) (by have := hp.1; omega)) c57)
          exact hq Y hp (fun z => q2 z.2) hO (fun z => (hM z).1)
      · rw [if_neg (fun z => q1 z.1)] at h
        cases h
        refine J_aload_n (pc := 42) dX11_house_42 rfl ?_
        refine J_geti (pc := 43) dX11_house_43 kc11 fl_X11_119 rfl ?_
        refine J_if_ne (pc := 46) (tgt := 71) dX11_house_46 (by decide) (fun c46 => ?_) (fun c46 => absurd c46 (fun z => q1 ((nI_z hp.2.1).mp z)))
        exact hq Y hp (fun z => q1 z.1) hO (fun z => (hM z).1)
  refine loop f Y0 ((pbl cc n 0, 0, 0), 0, hd0) s ⟨pbl_le cc (Nat.zero_le _), by show 0 ≤ 3; omega, Nat.zero_le _⟩ (by show 0 ≤ 60; omega) hO0 (fun _ => ⟨hM0, h70⟩) hr (fun Y hp hx9 hO hM => ?_)
  clear loop
  have hfr : FRL pfF pfA (S0 S) Y := FRL_t (show FRL pfF pfA (S0 S) B by rw [hB]; exact FRL_st _ _) (HO_FRL hO)
  have h1z : sf Y 59 1 = 0 := (hO.1 59 1 (by omega)).trans (by rw [hB]; rfl)
  have hM1 := hM hb
  refine J_aload_n (pc := 71) dX11_house_71 rfl ?_
  refine J_geti (pc := 72) dX11_house_72 kc11 fl_X11_119 rfl ?_
  refine J_if_eq (pc := 75) (tgt := 83) dX11_house_75 (by decide) (fun c75 => ?_) (fun c75 => absurd (show nI s.1.2.1 = 0 by rw [hb]; rfl) c75)
  refine J_aload_n (pc := 83) dX11_house_83 rfl ?_
  refine J_iconst (pc := 84) (v := -1) dX11_house_84 (by decide) ?_
  refine J_puti (pc := 85) dX11_house_85 kc11 fl_X11_9 rfl ⟨rfl, rfl⟩ ?_
  refine J_cg2 (ps_sF Y s.1 (by decide) (by decide) (by decide)) ?_
  refine J_aload_n (pc := 88) dX11_house_88 rfl ?_
  refine J_cvv (pc := 89) (N := mX11_beginsAnew) dX11_house_89 ml_X11_100 cf_X11_beginsAnew cv_X11_beginsAnew (r_X11_beginsAnew (S := ps (sF Y 59 3 (-1)) s.1) (nr := s.2.2.2.2.1.length) (np := s.2.2.2.2.2.length) hM1.2.1 hM1.2.2.1 hM1.2.2.2.2.1 hM1.2.2.2.2.2.1) rfl rfl (Nat.le_of_ble_eq_true rfl) (by decide) (rv_of (ci := 11) rfl rfl rfl) ?_
  have hG := bg_HG (S := ps (sF Y 59 3 (-1)) s.1) (d := s.2.2) hM1
  have hZ := bg_HZ (ps (sF Y 59 3 (-1)) s.1) s.2.2.2.2.1.length s.2.2.2.2.2.length
  have hFr := bg_FRL (S := ps (sF Y 59 3 (-1)) s.1) hM1.2.2.2.2.1 hM1.2.2.2.2.2.1
  have hFr0 : FRL hgF hgA (S0 S) (ps (sF Y 59 3 (-1)) s.1) := FRL_ps rfl rfl rfl (FRL_F (FRL_hg hfr) rfl)
  obtain ⟨Z, hZe⟩ : ∃ Z, Z = bgS (ps (sF Y 59 3 (-1)) s.1) s.2.2.2.2.1.length s.2.2.2.2.2.length := ⟨_, rfl⟩
  have z1 : sf Z 59 1 = 0 := by rw [hZe, (bgS_1 _ _ _).1, bgA_f]; exact h1z
  have z3 : sf Z 59 3 = -1 := by rw [hZe, (bgS_1 _ _ _).2, bgA_f]; rfl
  rw [← hZe] at hG hZ hFr ⊢
  refine J_aload_n (pc := 92) dX11_house_92 rfl ?_
  refine J_getr (pc := 93) dX11_house_93 kc11 fl_X11_23 rfl ?_
  refine J_iconst (pc := 96) (v := 1) dX11_house_96 (by decide) ?_
  refine J_il (pc := 97) dX11_house_97 (by first | rfl | assumption) (rfl : (1 : Int32) = nI 1) ⟨by first | decide | omega, by decide⟩ ?_
  exact J_iret (pc := 98) rfl rfl rfl dX11_house_98 (hQ _ _ ⟨hG.2.1, FRL_t hFr0 hFr, z1, z3, hG, hZ⟩)
