/-! ===== class and model read alike ===== -/
theorem TX_of {S : Sx} {n : Nat} {cc : Nat → Nat} (hx : CTX S n cc) : ∃ S', TX S' n cc := ⟨(fun _ _ => nI n, sp S, fun _ k => nI (cc k), sl S, sx S), rfl, hx.2.1, fun k hk => ⟨rfl, (hx.2.2.1 k hk).2⟩, hx.2.2.2⟩
def UR (u : UT) (t : PT) : Prop := u.2.2.1 = t.2.1 ∧ (t.2.1 ≠ 0 → u.2.2.2 = t.2.2) ∧ (t.2.1 = 0 → u.1 = t.1)
theorem nvl_cap {cc : Nat → Nat} : ∀ (f a v : Nat), min 100000 (nvl 1000000 cc f a v) = nvl 100000 cc f a (min 100000 v)
  | 0, _, _ => rfl
  | f + 1, a, v => by
    by_cases h : isD (cc a) = true
    · rw [nvl_t h, nvl_t h, nvl_cap f]
      congr 1
      omega
    · rw [nvl_f h, nvl_f h]
theorem um_f {k p : Nat} {u : UT} (h : u.2.2.1 ≠ 0) : um k p u = u := if_neg h
theorem UR_um {k p : Nat} {u : UT} {t : PT} (h : UR u t) : UR (um k p u) (pwr k p t) := by
  unfold um pwr
  by_cases q : t.2.1 = 0
  · rw [if_pos (h.1.trans q), if_pos q]
    exact ⟨rfl, fun _ => rfl, fun _ => h.2.2 q⟩
  · rw [if_neg (fun z => q (h.1.symm.trans z)), if_neg q]
    exact h
theorem UR_nx {cc : Nat → Nat} {n : Nat} {u : UT} {t : PT} (h : UR u t) : UR (unx cc n u) (pbl cc n t.1, t.2) := ⟨h.1, h.2.1, fun q => by show pbl cc n u.1 = pbl cc n t.1; rw [h.2.2 q]⟩
theorem UR_dm {cc : Nat → Nat} {n c : Nat} {u : UT} {t : PT} (h : UR u t) : UR (udm cc n c u) (psg cc n c t) := by
  unfold udm psg
  by_cases q : t.2.1 = 0
  · rw [if_neg (show ¬ (t.2.1 ≠ 0) from fun z => z q), h.2.2 q]
    split
    · exact ⟨h.1, h.2.1, fun _ => rfl⟩
    · unfold um
      rw [if_pos (show (unx cc n u).2.2.1 = 0 from h.1.trans q)]
      exact ⟨rfl, fun _ => rfl, fun z => absurd z (Nat.succ_ne_zero 0)⟩
  · rw [if_pos q]
    split
    · exact ⟨h.1, h.2.1, fun z => absurd z q⟩
    · rw [um_f (show (unx cc n u).2.2.1 ≠ 0 from fun z => q (h.1.symm.trans z))]
      exact ⟨h.1, h.2.1, fun z => absurd z q⟩
theorem unm_f {cc : Nat → Nat} {n lo hi : Nat} {u : UT} (h : u.2.2.1 ≠ 0) : (unm cc n lo hi u).2.2.2 = u.2.2 := by
  unfold unm
  split
  · split
    · rfl
    · rw [um_f (by exact h)]
  · rw [um_f (by exact h)]
    rfl
theorem UR_nm {cc : Nat → Nat} {n lo hi : Nat} {u : UT} {t : PT} (h : UR u t) (hh : hi ≤ 100000) : UR (unm cc n lo hi u).2 (pnum cc n lo hi t).2 ∧ ((pnum cc n lo hi t).2.2.1 = 0 → (unm cc n lo hi u).1 = some (pnum cc n lo hi t).1) := by
  by_cases q : t.2.1 = 0
  · have e := h.2.2 q
    have hc := nvl_cap (cc := cc) (n - pbl cc n t.1) (pbl cc n t.1) 0
    rw [show min 100000 0 = 0 from rfl] at hc
    unfold unm pnum
    rw [if_neg (show ¬ (t.2.1 ≠ 0) from fun z => z q), e]
    generalize nvl 1000000 cc (n - pbl cc n t.1) (pbl cc n t.1) 0 = v1 at hc ⊢
    generalize nvl 100000 cc (n - pbl cc n t.1) (pbl cc n t.1) 0 = v2 at hc ⊢
    split
    · by_cases z : lo ≤ v1 ∧ v1 < hi
      · have : v1 = v2 := by omega
        subst this
        rw [if_pos z, if_pos z]
        exact ⟨⟨h.1.trans q, fun y => absurd rfl y, fun _ => rfl⟩, fun _ => rfl⟩
      · rw [if_neg z, if_neg (by omega)]
        unfold um
        rw [if_pos (show u.2.2.1 = 0 from h.1.trans q)]
        exact ⟨⟨rfl, fun _ => rfl, fun y => absurd y (Nat.succ_ne_zero 1)⟩, fun y => absurd y (by show ¬ 2 = 0; decide)⟩
    · unfold um unx
      rw [if_pos (show u.2.2.1 = 0 from h.1.trans q), e]
      exact ⟨⟨rfl, fun _ => rfl, fun y => absurd y (Nat.succ_ne_zero 0)⟩, fun y => absurd y (by show ¬ 1 = 0; decide)⟩
  · have e := unm_f (cc := cc) (n := n) (lo := lo) (hi := hi) (show u.2.2.1 ≠ 0 from fun z => q (h.1.symm.trans z))
    rw [pnum_no q]
    exact ⟨⟨by rw [e]; exact h.1, fun _ => by rw [e]; exact h.2.1 q, fun z => absurd z q⟩, fun z => absurd z q⟩
theorem ct_F {S : Sx} {u : UT} {a k : Nat} {v : Int32} (ha : a ≠ 1) : sF (ct S u) a k v = ct (sF S a k v) u := by
  have : up2 (sf (ct S u)) a k v = sf (ct (sF S a k v) u) := by
    funext x y
    show (if x = a then (if y = k then v else sf (ct S u) x y) else sf (ct S u) x y) = _
    by_cases hx : x = a
    · subst hx
      rw [ct_o ha, ct_o ha]
      exact (if_pos rfl).trans (if_pos rfl).symm
    · rw [if_neg hx]
      by_cases h1 : x = 1
      · subst h1
        simp [ct, sf, sF, up2, hx]
      · rw [ct_o h1, ct_o h1]
        show _ = (if x = a then _ else sf S x y)
        rw [if_neg hx]
  show (up2 (sf (ct S u)) a k v, _, _, _, _) = _
  rw [this]
  rfl
theorem ct_A {S : Sx} {u : UT} {a k : Nat} {v : Int32} : sA (ct S u) a k v = ct (sA S a k v) u := rfl
theorem CTX_fr {S X : Sx} {n : Nat} {cc : Nat → Nat} (hx : CTX S n cc) (h1 : sf X 1 2 = sf S 1 2) (h2 : sa X 2 = sa S 2) : CTX X n cc := ⟨by rw [h1]; exact hx.1, hx.2.1, fun k hk => by rw [h2]; exact hx.2.2.1 k hk, hx.2.2.2⟩
/-- the frame of a reading on the class's side -/
def FRC (F : Nat → Nat → Bool) (A : Nat → Bool) (S X : Sx) : Prop := FRM F A S X ∧ sl X = sl S
theorem FRC_r (F : Nat → Nat → Bool) (A : Nat → Bool) (S : Sx) : FRC F A S S := ⟨FRM_r F A S, rfl⟩
theorem FRC_t {F : Nat → Nat → Bool} {A : Nat → Bool} {S X Y : Sx} (h : FRC F A S X) (h' : FRC F A X Y) : FRC F A S Y := ⟨FRM_t h.1 h'.1, h'.2.trans h.2⟩
theorem FRC_F {F : Nat → Nat → Bool} {A : Nat → Bool} {S X : Sx} (h : FRC F A S X) {a k : Nat} {v : Int32} (ha : F a k = true) : FRC F A S (sF X a k v) := ⟨FRM_F h.1 ha, h.2⟩
theorem FRC_A {F : Nat → Nat → Bool} {A : Nat → Bool} {S X : Sx} (h : FRC F A S X) {a k : Nat} {v : Int32} (ha : A a = true) : FRC F A S (sA X a k v) := ⟨FRM_A h.1 ha, h.2⟩
theorem CTX_F {F : Nat → Nat → Bool} {A : Nat → Bool} {S X : Sx} (h : FRC F A S X) (h1 : F 1 2 = false) (h2 : A 2 = false) {n : Nat} {cc : Nat → Nat} (hx : CTX S n cc) : CTX X n cc := CTX_fr hx (h.1.1 1 2 h1) (h.1.2.2 2 h2)
/-! ===== a house is read ===== -/
def hcF (a : Nat) (x k : Nat) : Bool := decide (x = a ∧ 8 ≤ k ∧ k ≤ 10)
def hcA (a : Nat) (x : Nat) : Bool := decide (a < x ∧ x ≤ a + 8)
theorem hcF_t {a k : Nat} (h1 : 8 ≤ k) (h2 : k ≤ 10) : hcF a a k = true := decide_eq_true ⟨rfl, h1, h2⟩
theorem hcA_t {a i : Nat} (h1 : 1 ≤ i) (h2 : i ≤ 8) : hcA a (a + i) = true := decide_eq_true ⟨by omega, by omega⟩
theorem HLa_1 {a : Nat} (h : HLa a) : a ≠ 1 := by rcases h with rfl | rfl <;> decide
theorem hcF_1 {a : Nat} (h : HLa a) : hcF a 1 2 = false := by rcases h with rfl | rfl <;> decide
theorem hcA_2 {a : Nat} (h : HLa a) : hcA a 2 = false := by rcases h with rfl | rfl <;> decide
theorem HC_ct {S : Sx} {u : UT} {a : Nat} {d : HD} (ha : a ≠ 1) : HC (ct S u) a d ↔ HC S a d := by
  unfold HC
  rw [ct_o ha, ct_o ha, ct_o ha]
  exact Iff.rfl
theorem sf_o {Y : Sx} {a k : Nat} {v : Int32} {b j : Nat} (h : ¬ (b = a ∧ j = k)) : sf (sF Y a k v) b j = sf Y b j := by
  show (if b = a then (if j = k then v else sf Y b j) else sf Y b j) = _
  by_cases q : b = a
  · rw [if_pos q, if_neg (fun z => h ⟨q, z⟩)]
  · rw [if_neg q]
theorem msk_no : ∀ n, msk (fun _ => false) n = 0
  | 0 => rfl
  | n + 1 => (msk_f0 (p := fun _ => false) (n := n) (by decide)).symm.trans (msk_no n)
theorem HC_sis {Y : Sx} {a : Nat} {d : HD} (h : HC Y a d) (hv : HV d) (t : Nat) : HC (sF (sA (sA (sA Y (a + 1) (dNs d) (nI t)) (a + 2) (dNs d) 0) (a + 3) (dNs d) (-1)) a 8 (nI (dNs d + 1))) a (d.1 ++ [t], d.2) := by
  obtain ⟨h1, h2, h3, h4, h5, h6⟩ := h
  have el : (d.1 ++ [t]).length = dNs d + 1 := len1 _ _
  refine ⟨by rw [sF_s]; show _ = nI (d.1 ++ [t]).length; rw [el], by rw [sf_o (by omega)]; exact h2, by rw [sf_o (by omega)]; exact h3, fun s hs => ?_, fun r hr => ?_, fun p hp => ?_⟩
  · have hs : s < dNs d + 1 := by have hs : s < (d.1 ++ [t]).length := hs; omega
    show sa (sA (sA (sA Y (a + 1) (dNs d) (nI t)) (a + 2) (dNs d) 0) (a + 3) (dNs d) (-1)) (a + 1) s = nI ((d.1 ++ [t]).getD s 0) ∧ sa (sA (sA (sA Y (a + 1) (dNs d) (nI t)) (a + 2) (dNs d) 0) (a + 3) (dNs d) (-1)) (a + 2) s = msk (fun r => decide (dOw d r = s)) (dNr d) ∧ sa (sA (sA (sA Y (a + 1) (dNs d) (nI t)) (a + 2) (dNs d) 0) (a + 3) (dNs d) (-1)) (a + 3) s = ov (d.2.1 s)
    rw [sa_o (by omega), sa_o (by omega), sa_o (b := a + 2) (by omega)]
    by_cases e : s = dNs d
    · subst e
      rw [sa_e, sa_e, sa_e]
      refine ⟨by show _ = nI ((d.1 ++ [t]).getD d.1.length 0); rw [getD_e], ?_, ?_⟩
      · symm
        refine (msk_congr (q := fun _ => false) (fun r hr => decide_eq_false (fun z => ?_))).trans (msk_no _)
        have : dOw d r < dNs d := (hv.2.2.2.2.2.1 r hr).1
        omega
      · cases e : d.2.1 (dNs d) with
        | none => rfl
        | some v => exact absurd (hv.2.2.2.2.1 _ _ e).1 (Nat.lt_irrefl _)
    · have hs2 : s < dNs d := by omega
      rw [sa_n (by exact e), sa_n (by exact e), sa_n (by exact e), sa_o (b := a + 2) (by omega), sa_o (by omega), sa_o (by omega), getD_l (by exact hs2)]
      exact h4 s hs2
  · show sa (sA (sA (sA Y (a + 1) (dNs d) (nI t)) (a + 2) (dNs d) 0) (a + 3) (dNs d) (-1)) (a + 4) r = _ ∧ sa (sA (sA (sA Y (a + 1) (dNs d) (nI t)) (a + 2) (dNs d) 0) (a + 3) (dNs d) (-1)) (a + 5) r = _ ∧ sa (sA (sA (sA Y (a + 1) (dNs d) (nI t)) (a + 2) (dNs d) 0) (a + 3) (dNs d) (-1)) (a + 6) r = _
    rw [sa_o (by omega), sa_o (by omega), sa_o (by omega), sa_o (by omega), sa_o (by omega), sa_o (by omega), sa_o (by omega), sa_o (by omega), sa_o (by omega)]
    exact h5 r hr
  · show sa (sA (sA (sA Y (a + 1) (dNs d) (nI t)) (a + 2) (dNs d) 0) (a + 3) (dNs d) (-1)) (a + 7) p = _ ∧ sa (sA (sA (sA Y (a + 1) (dNs d) (nI t)) (a + 2) (dNs d) 0) (a + 3) (dNs d) (-1)) (a + 8) p = _
    rw [sa_o (by omega), sa_o (by omega), sa_o (by omega), sa_o (by omega), sa_o (by omega), sa_o (by omega)]
    exact h6 p hp
theorem HC_rel {Y : Sx} {a : Nat} {d : HD} (h : HC Y a d) (hv : HV d) {s k w : Nat} (hs : s < dNs d) (hr10 : dNr d < 10) : HC (sF (sA (sA (sA (sA Y (a + 4) (dNr d) (nI s)) (a + 5) (dNr d) (nI k)) (a + 6) (dNr d) (nI w)) (a + 2) s (sa Y (a + 2) s ||| 1 <<< (nI (dNr d) &&& 31))) a 9 (nI (dNr d + 1))) a (d.1, d.2.1, d.2.2.1 ++ [(s, k, w)], d.2.2.2) := by
  obtain ⟨h1, h2, h3, h4, h5, h6⟩ := h
  have el : (d.2.2.1 ++ [(s, k, w)]).length = dNr d + 1 := len1 _ _
  refine ⟨by rw [sf_o (by omega)]; exact h1, by rw [sF_s]; show _ = nI (d.2.2.1 ++ [(s, k, w)]).length; rw [el], by rw [sf_o (by omega)]; exact h3, fun z hz => ?_, fun r hr => ?_, fun p hp => ?_⟩
  · have hz2 : z < dNs d := hz
    have e1 : msk (fun r => decide (dOw (d.1, d.2.1, d.2.2.1 ++ [(s, k, w)], d.2.2.2) r = z)) (dNr d) = msk (fun r => decide (dOw d r = z)) (dNr d) := msk_congr (fun r hr => by
      show decide (((d.2.2.1 ++ [(s, k, w)]).getD r (0, 0, 0)).1 = z) = decide ((d.2.2.1.getD r (0, 0, 0)).1 = z)
      rw [getD_l (by exact hr)])
    have e2 : dOw (d.1, d.2.1, d.2.2.1 ++ [(s, k, w)], d.2.2.2) (dNr d) = s := by
      show ((d.2.2.1 ++ [(s, k, w)]).getD d.2.2.1.length (0, 0, 0)).1 = s
      rw [getD_e]
    show sa (sA (sA (sA (sA Y (a + 4) (dNr d) (nI s)) (a + 5) (dNr d) (nI k)) (a + 6) (dNr d) (nI w)) (a + 2) s (sa Y (a + 2) s ||| 1 <<< (nI (dNr d) &&& 31))) (a + 1) z = _ ∧ sa (sA (sA (sA (sA Y (a + 4) (dNr d) (nI s)) (a + 5) (dNr d) (nI k)) (a + 6) (dNr d) (nI w)) (a + 2) s (sa Y (a + 2) s ||| 1 <<< (nI (dNr d) &&& 31))) (a + 2) z = msk (fun r => decide (dOw (d.1, d.2.1, d.2.2.1 ++ [(s, k, w)], d.2.2.2) r = z)) (d.2.2.1 ++ [(s, k, w)]).length ∧ sa (sA (sA (sA (sA Y (a + 4) (dNr d) (nI s)) (a + 5) (dNr d) (nI k)) (a + 6) (dNr d) (nI w)) (a + 2) s (sa Y (a + 2) s ||| 1 <<< (nI (dNr d) &&& 31))) (a + 3) z = _
    rw [el, sa_o (by omega), sa_o (by omega), sa_o (by omega), sa_o (by omega), sa_o (b := a + 3) (by omega), sa_o (b := a + 3) (by omega), sa_o (b := a + 3) (by omega), sa_o (b := a + 3) (by omega)]
    refine ⟨(h4 z hz2).1, ?_, (h4 z hz2).2.2⟩
    by_cases q : z = s
    · subst q
      rw [sa_e, (h4 z hz2).2.1, ← e1, ← ix_nI]
      exact msk_t (decide_eq_true e2)
    · rw [sa_n (by exact q), sa_o (by omega), sa_o (by omega), sa_o (by omega), (h4 z hz2).2.1, ← e1]
      exact msk_f0 (by rw [e2]; exact fun y => q (of_decide_eq_true y).symm)
  · have hr : r < (d.2.2.1 ++ [(s, k, w)]).length := hr
    rw [el] at hr
    show sa (sA (sA (sA (sA Y (a + 4) (dNr d) (nI s)) (a + 5) (dNr d) (nI k)) (a + 6) (dNr d) (nI w)) (a + 2) s (sa Y (a + 2) s ||| 1 <<< (nI (dNr d) &&& 31))) (a + 4) r = nI ((d.2.2.1 ++ [(s, k, w)]).getD r (0, 0, 0)).1 ∧ sa (sA (sA (sA (sA Y (a + 4) (dNr d) (nI s)) (a + 5) (dNr d) (nI k)) (a + 6) (dNr d) (nI w)) (a + 2) s (sa Y (a + 2) s ||| 1 <<< (nI (dNr d) &&& 31))) (a + 5) r = nI ((d.2.2.1 ++ [(s, k, w)]).getD r (0, 0, 0)).2.1 ∧ sa (sA (sA (sA (sA Y (a + 4) (dNr d) (nI s)) (a + 5) (dNr d) (nI k)) (a + 6) (dNr d) (nI w)) (a + 2) s (sa Y (a + 2) s ||| 1 <<< (nI (dNr d) &&& 31))) (a + 6) r = nI ((d.2.2.1 ++ [(s, k, w)]).getD r (0, 0, 0)).2.2
    rw [sa_o (by omega), sa_o (by omega), sa_o (by omega), sa_o (b := a + 5) (by omega), sa_o (b := a + 5) (by omega), sa_o (b := a + 6) (by omega)]
    by_cases e : r = dNr d
    · subst e
      rw [sa_e, sa_e, sa_e, show (d.2.2.1 ++ [(s, k, w)]).getD (dNr d) (0, 0, 0) = (s, k, w) from getD_e]
      exact ⟨rfl, rfl, rfl⟩
    · have hr2 : r < dNr d := by omega
      rw [sa_n (by exact e), sa_n (by exact e), sa_n (by exact e), sa_o (b := a + 5) (by omega), sa_o (b := a + 6) (by omega), sa_o (b := a + 6) (by omega), getD_l (by exact hr2)]
      exact h5 r hr2
  · show sa (sA (sA (sA (sA Y (a + 4) (dNr d) (nI s)) (a + 5) (dNr d) (nI k)) (a + 6) (dNr d) (nI w)) (a + 2) s (sa Y (a + 2) s ||| 1 <<< (nI (dNr d) &&& 31))) (a + 7) p = _ ∧ sa (sA (sA (sA (sA Y (a + 4) (dNr d) (nI s)) (a + 5) (dNr d) (nI k)) (a + 6) (dNr d) (nI w)) (a + 2) s (sa Y (a + 2) s ||| 1 <<< (nI (dNr d) &&& 31))) (a + 8) p = _
    rw [sa_o (by omega), sa_o (by omega), sa_o (by omega), sa_o (by omega), sa_o (by omega), sa_o (by omega), sa_o (by omega), sa_o (by omega)]
    exact h6 p hp
theorem HC_pil {Y : Sx} {a : Nat} {d : HD} (h : HC Y a d) {k w : Nat} : HC (sF (sA (sA Y (a + 7) (dNp d) (nI k)) (a + 8) (dNp d) (nI w)) a 10 (nI (dNp d + 1))) a (d.1, d.2.1, d.2.2.1, d.2.2.2 ++ [(k, w)]) := by
  obtain ⟨h1, h2, h3, h4, h5, h6⟩ := h
  have el : (d.2.2.2 ++ [(k, w)]).length = dNp d + 1 := len1 _ _
  refine ⟨by rw [sf_o (by omega)]; exact h1, by rw [sf_o (by omega)]; exact h2, by rw [sF_s]; show _ = nI (d.2.2.2 ++ [(k, w)]).length; rw [el], fun z hz => ?_, fun r hr => ?_, fun p hp => ?_⟩
  · show sa (sA (sA Y (a + 7) (dNp d) (nI k)) (a + 8) (dNp d) (nI w)) (a + 1) z = _ ∧ sa (sA (sA Y (a + 7) (dNp d) (nI k)) (a + 8) (dNp d) (nI w)) (a + 2) z = _ ∧ sa (sA (sA Y (a + 7) (dNp d) (nI k)) (a + 8) (dNp d) (nI w)) (a + 3) z = _
    rw [sa_o (by omega), sa_o (by omega), sa_o (by omega), sa_o (by omega), sa_o (by omega), sa_o (by omega)]
    exact h4 z hz
  · show sa (sA (sA Y (a + 7) (dNp d) (nI k)) (a + 8) (dNp d) (nI w)) (a + 4) r = _ ∧ sa (sA (sA Y (a + 7) (dNp d) (nI k)) (a + 8) (dNp d) (nI w)) (a + 5) r = _ ∧ sa (sA (sA Y (a + 7) (dNp d) (nI k)) (a + 8) (dNp d) (nI w)) (a + 6) r = _
    rw [sa_o (by omega), sa_o (by omega), sa_o (by omega), sa_o (by omega), sa_o (by omega), sa_o (by omega)]
    exact h5 r hr
  · have hp : p < (d.2.2.2 ++ [(k, w)]).length := hp
    rw [el] at hp
    show sa (sA (sA Y (a + 7) (dNp d) (nI k)) (a + 8) (dNp d) (nI w)) (a + 7) p = nI ((d.2.2.2 ++ [(k, w)]).getD p (0, 0)).1 ∧ sa (sA (sA Y (a + 7) (dNp d) (nI k)) (a + 8) (dNp d) (nI w)) (a + 8) p = nI ((d.2.2.2 ++ [(k, w)]).getD p (0, 0)).2
    rw [sa_o (by omega)]
    by_cases e : p = dNp d
    · subst e
      rw [sa_e, sa_e, show (d.2.2.2 ++ [(k, w)]).getD (dNp d) (0, 0) = (k, w) from getD_e]
      exact ⟨rfl, rfl⟩
    · have hp2 : p < dNp d := by omega
      rw [sa_n (by exact e), sa_n (by exact e), sa_o (b := a + 8) (by omega), getD_l (by exact hp2)]
      exact h6 p hp2
theorem HC_vow {Y : Sx} {a : Nat} {d : HD} (h : HC Y a d) {s v : Nat} : HC (sA Y (a + 3) s (nI v)) a (d.1, updO d.2.1 s (some v), d.2.2) := by
  obtain ⟨h1, h2, h3, h4, h5, h6⟩ := h
  refine ⟨h1, h2, h3, fun z hz => ?_, fun r hr => ?_, fun p hp => ?_⟩
  · show sa (sA Y (a + 3) s (nI v)) (a + 1) z = _ ∧ sa (sA Y (a + 3) s (nI v)) (a + 2) z = _ ∧ sa (sA Y (a + 3) s (nI v)) (a + 3) z = ov (updO d.2.1 s (some v) z)
    rw [sa_o (by omega), sa_o (by omega)]
    refine ⟨(h4 z hz).1, (h4 z hz).2.1, ?_⟩
    unfold updO
    by_cases q : z = s
    · subst q; rw [sa_e, if_pos rfl]; rfl
    · rw [sa_n (by exact q), if_neg q]; exact (h4 z hz).2.2
  · show sa (sA Y (a + 3) s (nI v)) (a + 4) r = _ ∧ sa (sA Y (a + 3) s (nI v)) (a + 5) r = _ ∧ sa (sA Y (a + 3) s (nI v)) (a + 6) r = _
    rw [sa_o (by omega), sa_o (by omega), sa_o (by omega)]
    exact h5 r hr
  · show sa (sA Y (a + 3) s (nI v)) (a + 7) p = _ ∧ sa (sA Y (a + 3) s (nI v)) (a + 8) p = _
    rw [sa_o (by omega), sa_o (by omega)]
    exact h6 p hp
theorem unm_s {cc : Nat → Nat} {n lo hi : Nat} {u : UT} (h : (unm cc n lo hi u).2.2.2.1 = 0) : u.2.2.1 = 0 ∧ ∃ v, (unm cc n lo hi u).1 = some v ∧ lo ≤ v ∧ v < hi := by
  have h0 : u.2.2.1 = 0 := by
    by_cases q : u.2.2.1 = 0
    · exact q
    · rw [unm_f q] at h; exact h
  refine ⟨h0, ?_⟩
  unfold unm at h ⊢
  split at h
  · next q1 =>
    rw [if_pos q1]
    split at h
    · next q => rw [if_pos q]; exact ⟨_, rfl, q.1, q.2⟩
    · unfold um at h; rw [if_pos h0] at h; exact absurd h (by show ¬ 2 = 0; decide)
  · unfold um at h; rw [if_pos (show (unx cc n u).2.2.1 = 0 from h0)] at h; exact absurd h (by show ¬ 1 = 0; decide)
theorem r_X1_isFull {g : Gp} {S : Sx} {a : Nat} {d : HD} (hHL : HLa a) (hHC : HC S a d) (hv : HV d) {k : Nat} (hk : k < 4) {u : UT} : RT g mX1_isFull 0 [.ref a, .int (nI k)] (ct S u) (some (.int (bI (hfull d k)))) (ct S u) := by
  refine RT_ofQ ⟨rfl, rfl⟩ (Nat.le_of_ble_eq_true rfl) (fun sz Q hQ => ?_)
  have h1 := HLa_1 hHL
  have n1 : dNs d ≤ 8 := hv.1
  have n2 : dNr d ≤ 10 := hv.2.1
  have n3 : dNp d ≤ 8 := hv.2.2.1
  have hHC1 := (HC_ct (u := u) h1).mpr hHC
  have hs8 : ∀ u, sf (ct S u) a 8 = nI (dNs d) := fun u => (ct_o h1).trans hHC.1
  have hs9 : ∀ u, sf (ct S u) a 9 = nI (dNr d) := fun u => (ct_o h1).trans hHC.2.1
  have hs10 : ∀ u, sf (ct S u) a 10 = nI (dNp d) := fun u => (ct_o h1).trans hHC.2.2.1
  have f0 : d.1.length = dNs d := rfl
  have f1 : d.2.2.1.length = dNr d := rfl
  have f2 : d.2.2.2.length = dNp d := rfl
  refine J_iload_n (pc := 0) dX1_isFull_0 rfl ?_
  refine J_if_ne (pc := 1) (tgt := 13) dX1_isFull_1 (by decide) (fun c1 => ?_) (fun c1 => ?_)
  · have k0 : ¬ k = 0 := fun q => c1 (by rw [q]; rfl)
    refine J_iload_n (pc := 13) dX1_isFull_13 rfl ?_
    refine J_iconst (pc := 14) (v := 1) dX1_isFull_14 (by decide) ?_
    refine J_icmp_ne (pc := 15) (tgt := 27) dX1_isFull_15 (by decide) (fun c15 => ?_) (fun c15 => ?_)
    · have k1 : ¬ k = 1 := fun q => c15 (by rw [q]; rfl)
      refine J_iload_n (pc := 27) dX1_isFull_27 rfl ?_
      refine J_iconst (pc := 28) (v := 2) dX1_isFull_28 (by decide) ?_
      refine J_icmp_ne (pc := 29) (tgt := 45) dX1_isFull_29 (by decide) (fun c29 => ?_) (fun c29 => ?_)
      · have k2 : ¬ k = 2 := fun q => c29 (by rw [q]; rfl)
        refine J_iconst (pc := 45) (v := 0) dX1_isFull_45 (by decide) ?_
        exact J_iret (pc := 46) rfl rfl rfl dX1_isFull_46 (rq hQ (by unfold hfull; rw [f0, f1, f2]; first | (have : dNs d = 8 := (by omega); simp [*, bI]; done) | (have : dNr d = 10 := (by omega); simp [*, bI]; done) | (have : dNp d = 8 := (by omega); simp [*, bI]; done) | (have : ¬ dNs d = 8 ∨ ¬ k = 0 := (by omega); have : ¬ dNr d = 10 ∨ ¬ k = 1 := (by omega); have : ¬ dNp d = 8 ∨ ¬ k = 2 := (by omega); rcases this with y | y <;> simp_all [bI])) rfl)
      · have k2 : k = 2 := (nI_eq (b := 2) (by omega) (by omega)).mp c29
        refine J_aload_n (pc := 32) dX1_isFull_32 rfl ?_
        refine J_geti (pc := 33) dX1_isFull_33 kc1 fl_X1_43 (by first | exact hou_i10 (by assumption) | rfl) ?_
        refine J_t1 (hs10 u) ?_
        refine J_bipush (pc := 36) (v := 8) dX1_isFull_36 (by decide) ?_
        refine J_icmp_lt (pc := 38) (tgt := 45) dX1_isFull_38 (by decide) (fun c38 => ?_) (fun c38 => ?_)
        · have e3 : ¬ 8 ≤ dNp d := fun q => absurd c38 (Int32.not_lt.mpr (nI_le q (by omega)))
          refine J_iconst (pc := 45) (v := 0) dX1_isFull_45 (by decide) ?_
          exact J_iret (pc := 46) rfl rfl rfl dX1_isFull_46 (rq hQ (by unfold hfull; rw [f0, f1, f2]; first | (have : dNs d = 8 := (by omega); simp [*, bI]; done) | (have : dNr d = 10 := (by omega); simp [*, bI]; done) | (have : dNp d = 8 := (by omega); simp [*, bI]; done) | (have : ¬ dNs d = 8 ∨ ¬ k = 0 := (by omega); have : ¬ dNr d = 10 ∨ ¬ k = 1 := (by omega); have : ¬ dNp d = 8 ∨ ¬ k = 2 := (by omega); rcases this with y | y <;> simp_all [bI])) rfl)
        · have e3 : 8 ≤ dNp d := (nI_leI (a := 8) (by omega) (by omega)).mp (Int32.not_lt.mp c38)
          refine J_iconst (pc := 41) (v := 1) dX1_isFull_41 (by decide) ?_
          refine J_goto (pc := 42) (tgt := 46) dX1_isFull_42 (by decide) ?_
          exact J_iret (pc := 46) rfl rfl rfl dX1_isFull_46 (rq hQ (by unfold hfull; rw [f0, f1, f2]; first | (have : dNs d = 8 := (by omega); simp [*, bI]; done) | (have : dNr d = 10 := (by omega); simp [*, bI]; done) | (have : dNp d = 8 := (by omega); simp [*, bI]; done) | (have : ¬ dNs d = 8 ∨ ¬ k = 0 := (by omega); have : ¬ dNr d = 10 ∨ ¬ k = 1 := (by omega); have : ¬ dNp d = 8 ∨ ¬ k = 2 := (by omega); rcases this with y | y <;> simp_all [bI])) rfl)
    · have k1 : k = 1 := (nI_eq (b := 1) (by omega) (by omega)).mp c15
      refine J_aload_n (pc := 18) dX1_isFull_18 rfl ?_
      refine J_geti (pc := 19) dX1_isFull_19 kc1 fl_X1_40 (by first | exact hou_i9 (by assumption) | rfl) ?_
      refine J_t1 (hs9 u) ?_
      refine J_bipush (pc := 22) (v := 10) dX1_isFull_22 (by decide) ?_
      refine J_icmp_ge (pc := 24) (tgt := 41) dX1_isFull_24 (by decide) (fun c24 => ?_) (fun c24 => ?_)
      · have e10 := (nI_leI (a := 10) (by omega) (by omega)).mp c24
        refine J_iconst (pc := 41) (v := 1) dX1_isFull_41 (by decide) ?_
        refine J_goto (pc := 42) (tgt := 46) dX1_isFull_42 (by decide) ?_
        exact J_iret (pc := 46) rfl rfl rfl dX1_isFull_46 (rq hQ (by unfold hfull; rw [f0, f1, f2]; first | (have : dNs d = 8 := (by omega); simp [*, bI]; done) | (have : dNr d = 10 := (by omega); simp [*, bI]; done) | (have : dNp d = 8 := (by omega); simp [*, bI]; done) | (have : ¬ dNs d = 8 ∨ ¬ k = 0 := (by omega); have : ¬ dNr d = 10 ∨ ¬ k = 1 := (by omega); have : ¬ dNp d = 8 ∨ ¬ k = 2 := (by omega); rcases this with y | y <;> simp_all [bI])) rfl)
      · have e10 : ¬ 10 ≤ dNr d := fun q => c24 (nI_le q (by omega))
        refine J_iload_n (pc := 27) dX1_isFull_27 rfl ?_
        refine J_iconst (pc := 28) (v := 2) dX1_isFull_28 (by decide) ?_
        refine J_icmp_ne (pc := 29) (tgt := 45) dX1_isFull_29 (by decide) (fun c29 => ?_) (fun c29 => ?_)
        · have k2 : ¬ k = 2 := fun q => c29 (by rw [q]; rfl)
          refine J_iconst (pc := 45) (v := 0) dX1_isFull_45 (by decide) ?_
          exact J_iret (pc := 46) rfl rfl rfl dX1_isFull_46 (rq hQ (by unfold hfull; rw [f0, f1, f2]; first | (have : dNs d = 8 := (by omega); simp [*, bI]; done) | (have : dNr d = 10 := (by omega); simp [*, bI]; done) | (have : dNp d = 8 := (by omega); simp [*, bI]; done) | (have : ¬ dNs d = 8 ∨ ¬ k = 0 := (by omega); have : ¬ dNr d = 10 ∨ ¬ k = 1 := (by omega); have : ¬ dNp d = 8 ∨ ¬ k = 2 := (by omega); rcases this with y | y <;> simp_all [bI])) rfl)
        · have k2 : k = 2 := (nI_eq (b := 2) (by omega) (by omega)).mp c29
          refine J_aload_n (pc := 32) dX1_isFull_32 rfl ?_
          refine J_geti (pc := 33) dX1_isFull_33 kc1 fl_X1_43 (by first | exact hou_i10 (by assumption) | rfl) ?_
          refine J_t1 (hs10 u) ?_
          refine J_bipush (pc := 36) (v := 8) dX1_isFull_36 (by decide) ?_
          refine J_icmp_lt (pc := 38) (tgt := 45) dX1_isFull_38 (by decide) (fun c38 => ?_) (fun c38 => ?_)
          · have e3 : ¬ 8 ≤ dNp d := fun q => absurd c38 (Int32.not_lt.mpr (nI_le q (by omega)))
            refine J_iconst (pc := 45) (v := 0) dX1_isFull_45 (by decide) ?_
            exact J_iret (pc := 46) rfl rfl rfl dX1_isFull_46 (rq hQ (by unfold hfull; rw [f0, f1, f2]; first | (have : dNs d = 8 := (by omega); simp [*, bI]; done) | (have : dNr d = 10 := (by omega); simp [*, bI]; done) | (have : dNp d = 8 := (by omega); simp [*, bI]; done) | (have : ¬ dNs d = 8 ∨ ¬ k = 0 := (by omega); have : ¬ dNr d = 10 ∨ ¬ k = 1 := (by omega); have : ¬ dNp d = 8 ∨ ¬ k = 2 := (by omega); rcases this with y | y <;> simp_all [bI])) rfl)
          · have e3 : 8 ≤ dNp d := (nI_leI (a := 8) (by omega) (by omega)).mp (Int32.not_lt.mp c38)
            refine J_iconst (pc := 41) (v := 1) dX1_isFull_41 (by decide) ?_
            refine J_goto (pc := 42) (tgt := 46) dX1_isFull_42 (by decide) ?_
            exact J_iret (pc := 46) rfl rfl rfl dX1_isFull_46 (rq hQ (by unfold hfull; rw [f0, f1, f2]; first | (have : dNs d = 8 := (by omega); simp [*, bI]; done) | (have : dNr d = 10 := (by omega); simp [*, bI]; done) | (have : dNp d = 8 := (by omega); simp [*, bI]; done) | (have : ¬ dNs d = 8 ∨ ¬ k = 0 := (by omega); have : ¬ dNr d = 10 ∨ ¬ k = 1 := (by omega); have : ¬ dNp d = 8 ∨ ¬ k = 2 := (by omega); rcases this with y | y <;> simp_all [bI])) rfl)
  · have k0 : k = 0 := (nI_z (by omega)).mp c1
    refine J_aload_n (pc := 4) dX1_isFull_4 rfl ?_
    refine J_geti (pc := 5) dX1_isFull_5 kc1 fl_X1_36 (by first | exact hou_i8 (by assumption) | rfl) ?_
    refine J_t1 (hs8 u) ?_
    refine J_bipush (pc := 8) (v := 8) dX1_isFull_8 (by decide) ?_
    refine J_icmp_ge (pc := 10) (tgt := 41) dX1_isFull_10 (by decide) (fun c10 => ?_) (fun c10 => ?_)
    · have e8 := (nI_leI (a := 8) (by omega) (by omega)).mp c10
      refine J_iconst (pc := 41) (v := 1) dX1_isFull_41 (by decide) ?_
      refine J_goto (pc := 42) (tgt := 46) dX1_isFull_42 (by decide) ?_
      exact J_iret (pc := 46) rfl rfl rfl dX1_isFull_46 (rq hQ (by unfold hfull; rw [f0, f1, f2]; first | (have : dNs d = 8 := (by omega); simp [*, bI]; done) | (have : dNr d = 10 := (by omega); simp [*, bI]; done) | (have : dNp d = 8 := (by omega); simp [*, bI]; done) | (have : ¬ dNs d = 8 ∨ ¬ k = 0 := (by omega); have : ¬ dNr d = 10 ∨ ¬ k = 1 := (by omega); have : ¬ dNp d = 8 ∨ ¬ k = 2 := (by omega); rcases this with y | y <;> simp_all [bI])) rfl)
    · have e8 : ¬ 8 ≤ dNs d := fun q => c10 (nI_le q (by omega))
      refine J_iload_n (pc := 13) dX1_isFull_13 rfl ?_
      refine J_iconst (pc := 14) (v := 1) dX1_isFull_14 (by decide) ?_
      refine J_icmp_ne (pc := 15) (tgt := 27) dX1_isFull_15 (by decide) (fun c15 => ?_) (fun c15 => ?_)
      · have k1 : ¬ k = 1 := fun q => c15 (by rw [q]; rfl)
        refine J_iload_n (pc := 27) dX1_isFull_27 rfl ?_
        refine J_iconst (pc := 28) (v := 2) dX1_isFull_28 (by decide) ?_
        refine J_icmp_ne (pc := 29) (tgt := 45) dX1_isFull_29 (by decide) (fun c29 => ?_) (fun c29 => ?_)
        · have k2 : ¬ k = 2 := fun q => c29 (by rw [q]; rfl)
          refine J_iconst (pc := 45) (v := 0) dX1_isFull_45 (by decide) ?_
          exact J_iret (pc := 46) rfl rfl rfl dX1_isFull_46 (rq hQ (by unfold hfull; rw [f0, f1, f2]; first | (have : dNs d = 8 := (by omega); simp [*, bI]; done) | (have : dNr d = 10 := (by omega); simp [*, bI]; done) | (have : dNp d = 8 := (by omega); simp [*, bI]; done) | (have : ¬ dNs d = 8 ∨ ¬ k = 0 := (by omega); have : ¬ dNr d = 10 ∨ ¬ k = 1 := (by omega); have : ¬ dNp d = 8 ∨ ¬ k = 2 := (by omega); rcases this with y | y <;> simp_all [bI])) rfl)
        · have k2 : k = 2 := (nI_eq (b := 2) (by omega) (by omega)).mp c29
          refine J_aload_n (pc := 32) dX1_isFull_32 rfl ?_
          refine J_geti (pc := 33) dX1_isFull_33 kc1 fl_X1_43 (by first | exact hou_i10 (by assumption) | rfl) ?_
          refine J_t1 (hs10 u) ?_
          refine J_bipush (pc := 36) (v := 8) dX1_isFull_36 (by decide) ?_
          refine J_icmp_lt (pc := 38) (tgt := 45) dX1_isFull_38 (by decide) (fun c38 => ?_) (fun c38 => ?_)
          · have e3 : ¬ 8 ≤ dNp d := fun q => absurd c38 (Int32.not_lt.mpr (nI_le q (by omega)))
            refine J_iconst (pc := 45) (v := 0) dX1_isFull_45 (by decide) ?_
            exact J_iret (pc := 46) rfl rfl rfl dX1_isFull_46 (rq hQ (by unfold hfull; rw [f0, f1, f2]; first | (have : dNs d = 8 := (by omega); simp [*, bI]; done) | (have : dNr d = 10 := (by omega); simp [*, bI]; done) | (have : dNp d = 8 := (by omega); simp [*, bI]; done) | (have : ¬ dNs d = 8 ∨ ¬ k = 0 := (by omega); have : ¬ dNr d = 10 ∨ ¬ k = 1 := (by omega); have : ¬ dNp d = 8 ∨ ¬ k = 2 := (by omega); rcases this with y | y <;> simp_all [bI])) rfl)
          · have e3 : 8 ≤ dNp d := (nI_leI (a := 8) (by omega) (by omega)).mp (Int32.not_lt.mp c38)
            refine J_iconst (pc := 41) (v := 1) dX1_isFull_41 (by decide) ?_
            refine J_goto (pc := 42) (tgt := 46) dX1_isFull_42 (by decide) ?_
            exact J_iret (pc := 46) rfl rfl rfl dX1_isFull_46 (rq hQ (by unfold hfull; rw [f0, f1, f2]; first | (have : dNs d = 8 := (by omega); simp [*, bI]; done) | (have : dNr d = 10 := (by omega); simp [*, bI]; done) | (have : dNp d = 8 := (by omega); simp [*, bI]; done) | (have : ¬ dNs d = 8 ∨ ¬ k = 0 := (by omega); have : ¬ dNr d = 10 ∨ ¬ k = 1 := (by omega); have : ¬ dNp d = 8 ∨ ¬ k = 2 := (by omega); rcases this with y | y <;> simp_all [bI])) rfl)
      · have k1 : k = 1 := (nI_eq (b := 1) (by omega) (by omega)).mp c15
        refine J_aload_n (pc := 18) dX1_isFull_18 rfl ?_
        refine J_geti (pc := 19) dX1_isFull_19 kc1 fl_X1_40 (by first | exact hou_i9 (by assumption) | rfl) ?_
        refine J_t1 (hs9 u) ?_
        refine J_bipush (pc := 22) (v := 10) dX1_isFull_22 (by decide) ?_
        refine J_icmp_ge (pc := 24) (tgt := 41) dX1_isFull_24 (by decide) (fun c24 => ?_) (fun c24 => ?_)
        · have e10 := (nI_leI (a := 10) (by omega) (by omega)).mp c24
          refine J_iconst (pc := 41) (v := 1) dX1_isFull_41 (by decide) ?_
          refine J_goto (pc := 42) (tgt := 46) dX1_isFull_42 (by decide) ?_
          exact J_iret (pc := 46) rfl rfl rfl dX1_isFull_46 (rq hQ (by unfold hfull; rw [f0, f1, f2]; first | (have : dNs d = 8 := (by omega); simp [*, bI]; done) | (have : dNr d = 10 := (by omega); simp [*, bI]; done) | (have : dNp d = 8 := (by omega); simp [*, bI]; done) | (have : ¬ dNs d = 8 ∨ ¬ k = 0 := (by omega); have : ¬ dNr d = 10 ∨ ¬ k = 1 := (by omega); have : ¬ dNp d = 8 ∨ ¬ k = 2 := (by omega); rcases this with y | y <;> simp_all [bI])) rfl)
        · have e10 : ¬ 10 ≤ dNr d := fun q => c24 (nI_le q (by omega))
          refine J_iload_n (pc := 27) dX1_isFull_27 rfl ?_
          refine J_iconst (pc := 28) (v := 2) dX1_isFull_28 (by decide) ?_
          refine J_icmp_ne (pc := 29) (tgt := 45) dX1_isFull_29 (by decide) (fun c29 => ?_) (fun c29 => ?_)
          · have k2 : ¬ k = 2 := fun q => c29 (by rw [q]; rfl)
            refine J_iconst (pc := 45) (v := 0) dX1_isFull_45 (by decide) ?_
            exact J_iret (pc := 46) rfl rfl rfl dX1_isFull_46 (rq hQ (by unfold hfull; rw [f0, f1, f2]; first | (have : dNs d = 8 := (by omega); simp [*, bI]; done) | (have : dNr d = 10 := (by omega); simp [*, bI]; done) | (have : dNp d = 8 := (by omega); simp [*, bI]; done) | (have : ¬ dNs d = 8 ∨ ¬ k = 0 := (by omega); have : ¬ dNr d = 10 ∨ ¬ k = 1 := (by omega); have : ¬ dNp d = 8 ∨ ¬ k = 2 := (by omega); rcases this with y | y <;> simp_all [bI])) rfl)
          · have k2 : k = 2 := (nI_eq (b := 2) (by omega) (by omega)).mp c29
            refine J_aload_n (pc := 32) dX1_isFull_32 rfl ?_
            refine J_geti (pc := 33) dX1_isFull_33 kc1 fl_X1_43 (by first | exact hou_i10 (by assumption) | rfl) ?_
            refine J_t1 (hs10 u) ?_
            refine J_bipush (pc := 36) (v := 8) dX1_isFull_36 (by decide) ?_
            refine J_icmp_lt (pc := 38) (tgt := 45) dX1_isFull_38 (by decide) (fun c38 => ?_) (fun c38 => ?_)
            · have e3 : ¬ 8 ≤ dNp d := fun q => absurd c38 (Int32.not_lt.mpr (nI_le q (by omega)))
              refine J_iconst (pc := 45) (v := 0) dX1_isFull_45 (by decide) ?_
              exact J_iret (pc := 46) rfl rfl rfl dX1_isFull_46 (rq hQ (by unfold hfull; rw [f0, f1, f2]; first | (have : dNs d = 8 := (by omega); simp [*, bI]; done) | (have : dNr d = 10 := (by omega); simp [*, bI]; done) | (have : dNp d = 8 := (by omega); simp [*, bI]; done) | (have : ¬ dNs d = 8 ∨ ¬ k = 0 := (by omega); have : ¬ dNr d = 10 ∨ ¬ k = 1 := (by omega); have : ¬ dNp d = 8 ∨ ¬ k = 2 := (by omega); rcases this with y | y <;> simp_all [bI])) rfl)
            · have e3 : 8 ≤ dNp d := (nI_leI (a := 8) (by omega) (by omega)).mp (Int32.not_lt.mp c38)
              refine J_iconst (pc := 41) (v := 1) dX1_isFull_41 (by decide) ?_
              refine J_goto (pc := 42) (tgt := 46) dX1_isFull_42 (by decide) ?_
              exact J_iret (pc := 46) rfl rfl rfl dX1_isFull_46 (rq hQ (by unfold hfull; rw [f0, f1, f2]; first | (have : dNs d = 8 := (by omega); simp [*, bI]; done) | (have : dNr d = 10 := (by omega); simp [*, bI]; done) | (have : dNp d = 8 := (by omega); simp [*, bI]; done) | (have : ¬ dNs d = 8 ∨ ¬ k = 0 := (by omega); have : ¬ dNr d = 10 ∨ ¬ k = 1 := (by omega); have : ¬ dNp d = 8 ∨ ¬ k = 2 := (by omega); rcases this with y | y <;> simp_all [bI])) rfl)
theorem r_X1_readSister {g : Gp} {S : Sx} {n : Nat} {cc : Nat → Nat} (hx : CTX S n cc) {u : UT} (hu : UO n u) {a : Nat} {d : HD} (hHL : HLa a) (hHC : HC S a d) (hv : HV d) (h8 : dNs d < 8) : RU g mX1_readSister 3 [.ref a, .ref 1] (ct S u) (fun X => ∃ Y', X = ct Y' (unm cc n 0 16 u).2 ∧ FRC (hcF a) (hcA a) S Y' ∧ ∀ v, (unm cc n 0 16 u).2.2.2.1 = 0 → (unm cc n 0 16 u).1 = some v → HC Y' a (d.1 ++ [v], d.2)) := by
  refine RU_ofQ ⟨rfl, rfl⟩ (Nat.le_of_ble_eq_true rfl) (fun sz Q hQ => ?_)
  have h1 := HLa_1 hHL
  have n1 : dNs d ≤ 8 := hv.1
  have n2 : dNr d ≤ 10 := hv.2.1
  have n3 : dNp d ≤ 8 := hv.2.2.1
  have hHC1 := (HC_ct (u := u) h1).mpr hHC
  have hs8 : ∀ u, sf (ct S u) a 8 = nI (dNs d) := fun u => (ct_o h1).trans hHC.1
  have hs9 : ∀ u, sf (ct S u) a 9 = nI (dNr d) := fun u => (ct_o h1).trans hHC.2.1
  have hs10 : ∀ u, sf (ct S u) a 10 = nI (dNp d) := fun u => (ct_o h1).trans hHC.2.2.1
  refine J_aload_n (pc := 0) dX1_readSister_0 rfl ?_
  refine J_iconst (pc := 1) (v := 0) dX1_readSister_1 (by decide) ?_
  refine J_bipush (pc := 2) (v := 15) dX1_readSister_2 (by decide) ?_
  refine J_cnr (pc := 4) (N := mX8_number) dX1_readSister_4 ml_X1_94 cf_X8_number cv_X8_number (r_X8_number (lo := 0) (hi := 16) hx hu rfl rfl (by omega) (by omega)) rfl rfl (Nat.le_of_ble_eq_true rfl) (by decide) (rv_of (ci := 8) rfl rfl rfl) ?_
  refine J_istore_n (pc := 7) dX1_readSister_7 (by decide) rfl ?_
  refine J_aload_n (pc := 8) dX1_readSister_8 rfl ?_
  refine J_cnr (pc := 9) (N := mX8_isSound) dX1_readSister_9 ml_X1_46 cf_X8_isSound cv_X8_isSound (r_X8_isSound (UO_nm hu)) rfl rfl (Nat.le_of_ble_eq_true rfl) (by decide) (rv_of (ci := 8) rfl rfl rfl) ?_
  refine J_ifp_eq (pc := 12) (tgt := 64) dX1_readSister_12 (by decide) (fun c12 => ?_) (fun c12 => ?_)
  · exact J_ret (pc := 64) rfl rfl dX1_readSister_64 (by first | exact hQ _ ⟨S, rfl, FRC_r _ _ _, fun v z => absurd z c12⟩ | (refine hQ _ ⟨_, rfl, FRC_F (FRC_A (FRC_A (FRC_A (FRC_r _ _ _) (hcA_t (i := 1) (by decide) (by decide))) (hcA_t (i := 2) (by decide) (by decide))) (hcA_t (i := 3) (by decide) (by decide))) (hcF_t (k := 8) (by decide) (by decide)), fun w _ hw => ?_⟩; rw [hv1] at hw; cases hw; exact HC_sis hHC hv v))
  · obtain ⟨_, v, hv1, _, _⟩ := unm_s c12
    rw [hv1]
    refine J_aload_n (pc := 15) dX1_readSister_15 rfl ?_
    refine J_geti (pc := 16) dX1_readSister_16 kc1 fl_X1_36 (by first | exact hou_i8 (by assumption) | rfl) ?_
    refine J_t1 (hs8 _) ?_
    refine J_bipush (pc := 19) (v := 8) dX1_readSister_19 (by decide) ?_
    refine J_icmp_ge (pc := 21) (tgt := 64) dX1_readSister_21 (by decide) (fun c21 => absurd c21 (nI_ge (b := 8) (by omega) (by decide))) (fun c21 => ?_)
    refine J_aload_n (pc := 24) dX1_readSister_24 rfl ?_
    refine J_getr (pc := 25) dX1_readSister_25 kc1 fl_X1_9 (by first | exact hou_r0 (by assumption) | rfl) ?_
    refine J_aload_n (pc := 28) dX1_readSister_28 rfl ?_
    refine J_geti (pc := 29) dX1_readSister_29 kc1 fl_X1_36 (by first | exact hou_i8 (by assumption) | rfl) ?_
    refine J_t1 (hs8 _) ?_
    refine J_iload_n (pc := 32) dX1_readSister_32 rfl ?_
    refine J_is (pc := 33) dX1_readSister_33 (by first | exact hou_a0 (by assumption) | rfl) rfl ⟨h8, by decide⟩ ?_
    refine J_aload_n (pc := 34) dX1_readSister_34 rfl ?_
    refine J_getr (pc := 35) dX1_readSister_35 kc1 fl_X1_15 (by first | exact hou_r1 (by assumption) | rfl) ?_
    refine J_aload_n (pc := 38) dX1_readSister_38 rfl ?_
    refine J_geti (pc := 39) dX1_readSister_39 kc1 fl_X1_36 (by first | exact hou_i8 (by assumption) | rfl) ?_
    refine J_t1 (hs8 _) ?_
    refine J_iconst (pc := 42) (v := 0) dX1_readSister_42 (by decide) ?_
    refine J_is (pc := 43) dX1_readSister_43 (by first | exact hou_a1 (by assumption) | rfl) rfl ⟨h8, by decide⟩ ?_
    refine J_aload_n (pc := 44) dX1_readSister_44 rfl ?_
    refine J_getr (pc := 45) dX1_readSister_45 kc1 fl_X1_18 (by first | exact hou_r2 (by assumption) | rfl) ?_
    refine J_aload_n (pc := 48) dX1_readSister_48 rfl ?_
    refine J_geti (pc := 49) dX1_readSister_49 kc1 fl_X1_36 (by first | exact hou_i8 (by assumption) | rfl) ?_
    refine J_t1 (hs8 _) ?_
    refine J_iconst (pc := 52) (v := -1) dX1_readSister_52 (by decide) ?_
    refine J_is (pc := 53) dX1_readSister_53 (by first | exact hou_a2 (by assumption) | rfl) rfl ⟨h8, by decide⟩ ?_
    refine J_aload_n (pc := 54) dX1_readSister_54 rfl ?_
    refine J_dup (pc := 55) dX1_readSister_55 rfl ?_
    refine J_geti (pc := 56) dX1_readSister_56 kc1 fl_X1_36 (by first | exact hou_i8 (by assumption) | rfl) ?_
    refine J_t1 (hs8 _) ?_
    refine J_iconst (pc := 59) (v := 1) dX1_readSister_59 (by decide) ?_
    refine J_iadd (pc := 60) dX1_readSister_60 ?_
    rw [nI_1]
    refine J_puti (pc := 61) dX1_readSister_61 kc1 fl_X1_36 (by first | exact hou_i8 (by assumption) | rfl) ⟨rfl, rfl⟩ ?_
    rw [ct_A, ct_A, ct_A, ct_F h1]
    exact J_ret (pc := 64) rfl rfl dX1_readSister_64 (by first | exact hQ _ ⟨S, rfl, FRC_r _ _ _, fun v z => absurd z c12⟩ | (refine hQ _ ⟨_, rfl, FRC_F (FRC_A (FRC_A (FRC_A (FRC_r _ _ _) (hcA_t (i := 1) (by decide) (by decide))) (hcA_t (i := 2) (by decide) (by decide))) (hcA_t (i := 3) (by decide) (by decide))) (hcF_t (k := 8) (by decide) (by decide)), fun w _ hw => ?_⟩; rw [hv1] at hw; cases hw; exact HC_sis hHC hv v))
theorem r_X1_readPilgrim {g : Gp} {S : Sx} {n : Nat} {cc : Nat → Nat} (hx : CTX S n cc) {u : UT} (hu : UO n u) {a : Nat} {d : HD} (hHL : HLa a) (hHC : HC S a d) (hv : HV d) (h8 : dNp d < 8) : RU g mX1_readPilgrim 3 [.ref a, .ref 1] (ct S u) (fun X => ∃ Y', X = ct Y' (unm cc n 1 100 (unm cc n 0 6 u).2).2 ∧ FRC (hcF a) (hcA a) S Y' ∧ ∀ v w, (unm cc n 1 100 (unm cc n 0 6 u).2).2.2.2.1 = 0 → (unm cc n 0 6 u).1 = some v → (unm cc n 1 100 (unm cc n 0 6 u).2).1 = some w → HC Y' a (d.1, d.2.1, d.2.2.1, d.2.2.2 ++ [(v, w)])) := by
  refine RU_ofQ ⟨rfl, rfl⟩ (Nat.le_of_ble_eq_true rfl) (fun sz Q hQ => ?_)
  have h1 := HLa_1 hHL
  have n1 : dNs d ≤ 8 := hv.1
  have n2 : dNr d ≤ 10 := hv.2.1
  have n3 : dNp d ≤ 8 := hv.2.2.1
  have hHC1 := (HC_ct (u := u) h1).mpr hHC
  have hs8 : ∀ u, sf (ct S u) a 8 = nI (dNs d) := fun u => (ct_o h1).trans hHC.1
  have hs9 : ∀ u, sf (ct S u) a 9 = nI (dNr d) := fun u => (ct_o h1).trans hHC.2.1
  have hs10 : ∀ u, sf (ct S u) a 10 = nI (dNp d) := fun u => (ct_o h1).trans hHC.2.2.1
  refine J_aload_n (pc := 0) dX1_readPilgrim_0 rfl ?_
  refine J_iconst (pc := 1) (v := 0) dX1_readPilgrim_1 (by decide) ?_
  refine J_iconst (pc := 2) (v := 5) dX1_readPilgrim_2 (by decide) ?_
  refine J_cnr (pc := 3) (N := mX8_number) dX1_readPilgrim_3 ml_X1_94 cf_X8_number cv_X8_number (r_X8_number (lo := 0) (hi := 6) hx hu rfl rfl (by omega) (by omega)) rfl rfl (Nat.le_of_ble_eq_true rfl) (by decide) (rv_of (ci := 8) rfl rfl rfl) ?_
  refine J_istore_n (pc := 6) dX1_readPilgrim_6 (by decide) rfl ?_
  refine J_aload_n (pc := 7) dX1_readPilgrim_7 rfl ?_
  refine J_iconst (pc := 8) (v := 1) dX1_readPilgrim_8 (by decide) ?_
  refine J_bipush (pc := 9) (v := 99) dX1_readPilgrim_9 (by decide) ?_
  refine J_cnr (pc := 11) (N := mX8_number) dX1_readPilgrim_11 ml_X1_94 cf_X8_number cv_X8_number (r_X8_number (lo := 1) (hi := 100) hx (UO_nm hu) rfl rfl (by omega) (by omega)) rfl rfl (Nat.le_of_ble_eq_true rfl) (by decide) (rv_of (ci := 8) rfl rfl rfl) ?_
  refine J_istore_n (pc := 14) dX1_readPilgrim_14 (by decide) rfl ?_
  refine J_aload_n (pc := 15) dX1_readPilgrim_15 rfl ?_
  refine J_cnr (pc := 16) (N := mX8_isSound) dX1_readPilgrim_16 ml_X1_46 cf_X8_isSound cv_X8_isSound (r_X8_isSound (UO_nm (UO_nm hu))) rfl rfl (Nat.le_of_ble_eq_true rfl) (by decide) (rv_of (ci := 8) rfl rfl rfl) ?_
  refine J_ifp_eq (pc := 19) (tgt := 61) dX1_readPilgrim_19 (by decide) (fun c19 => ?_) (fun c19 => ?_)
  · exact J_ret (pc := 61) rfl rfl dX1_readPilgrim_61 (by first | exact hQ _ ⟨S, rfl, FRC_r _ _ _, fun v w z => absurd z c19⟩ | (refine hQ _ ⟨_, rfl, FRC_F (FRC_A (FRC_A (FRC_r _ _ _) (hcA_t (i := 7) (by decide) (by decide))) (hcA_t (i := 8) (by decide) (by decide))) (hcF_t (k := 10) (by decide) (by decide)), fun x y _ hx1 hy1 => ?_⟩; rw [hv1] at hx1; rw [hw1] at hy1; cases hx1; cases hy1; exact HC_pil hHC))
  · obtain ⟨c19a, w, hw1, _, _⟩ := unm_s c19
    obtain ⟨_, v, hv1, _, _⟩ := unm_s c19a
    rw [hv1, hw1]
    refine J_aload_n (pc := 22) dX1_readPilgrim_22 rfl ?_
    refine J_geti (pc := 23) dX1_readPilgrim_23 kc1 fl_X1_43 (by first | exact hou_i10 (by assumption) | rfl) ?_
    refine J_t1 (hs10 _) ?_
    refine J_bipush (pc := 26) (v := 8) dX1_readPilgrim_26 (by decide) ?_
    refine J_icmp_ge (pc := 28) (tgt := 61) dX1_readPilgrim_28 (by decide) (fun c28 => absurd c28 (nI_ge (b := 8) (by omega) (by decide))) (fun c28 => ?_)
    refine J_aload_n (pc := 31) dX1_readPilgrim_31 rfl ?_
    refine J_getr (pc := 32) dX1_readPilgrim_32 kc1 fl_X1_30 (by first | exact hou_r6 (by assumption) | rfl) ?_
    refine J_aload_n (pc := 35) dX1_readPilgrim_35 rfl ?_
    refine J_geti (pc := 36) dX1_readPilgrim_36 kc1 fl_X1_43 (by first | exact hou_i10 (by assumption) | rfl) ?_
    refine J_t1 (hs10 _) ?_
    refine J_iload_n (pc := 39) dX1_readPilgrim_39 rfl ?_
    refine J_is (pc := 40) dX1_readPilgrim_40 (by first | exact hou_a6 (by assumption) | rfl) rfl ⟨h8, by decide⟩ ?_
    refine J_aload_n (pc := 41) dX1_readPilgrim_41 rfl ?_
    refine J_getr (pc := 42) dX1_readPilgrim_42 kc1 fl_X1_33 (by first | exact hou_r7 (by assumption) | rfl) ?_
    refine J_aload_n (pc := 45) dX1_readPilgrim_45 rfl ?_
    refine J_geti (pc := 46) dX1_readPilgrim_46 kc1 fl_X1_43 (by first | exact hou_i10 (by assumption) | rfl) ?_
    refine J_t1 (hs10 _) ?_
    refine J_iload_n (pc := 49) dX1_readPilgrim_49 rfl ?_
    refine J_is (pc := 50) dX1_readPilgrim_50 (by first | exact hou_a7 (by assumption) | rfl) rfl ⟨h8, by decide⟩ ?_
    refine J_aload_n (pc := 51) dX1_readPilgrim_51 rfl ?_
    refine J_dup (pc := 52) dX1_readPilgrim_52 rfl ?_
    refine J_geti (pc := 53) dX1_readPilgrim_53 kc1 fl_X1_43 (by first | exact hou_i10 (by assumption) | rfl) ?_
    refine J_t1 (hs10 _) ?_
    refine J_iconst (pc := 56) (v := 1) dX1_readPilgrim_56 (by decide) ?_
    refine J_iadd (pc := 57) dX1_readPilgrim_57 ?_
    rw [nI_1]
    refine J_puti (pc := 58) dX1_readPilgrim_58 kc1 fl_X1_43 (by first | exact hou_i10 (by assumption) | rfl) ⟨rfl, rfl⟩ ?_
    rw [ct_A, ct_A, ct_F h1]
    exact J_ret (pc := 61) rfl rfl dX1_readPilgrim_61 (by first | exact hQ _ ⟨S, rfl, FRC_r _ _ _, fun v w z => absurd z c19⟩ | (refine hQ _ ⟨_, rfl, FRC_F (FRC_A (FRC_A (FRC_r _ _ _) (hcA_t (i := 7) (by decide) (by decide))) (hcA_t (i := 8) (by decide) (by decide))) (hcF_t (k := 10) (by decide) (by decide)), fun x y _ hx1 hy1 => ?_⟩; rw [hv1] at hx1; rw [hw1] at hy1; cases hx1; cases hy1; exact HC_pil hHC))
theorem r_X1_readRelic {g : Gp} {S : Sx} {n : Nat} {cc : Nat → Nat} (hx : CTX S n cc) {u : UT} (hu : UO n u) {a : Nat} {d : HD} (hHL : HLa a) (hHC : HC S a d) (hv : HV d) (h8 : dNr d < 10) : RU g mX1_readRelic 3 [.ref a, .ref 1] (ct S u) (fun X => ∃ Y', X = ct Y' (unm cc n 1 31 (unm cc n 0 6 (unm cc n 0 (dNs d) u).2).2).2 ∧ FRC (hcF a) (hcA a) S Y' ∧ ∀ s k w, (unm cc n 1 31 (unm cc n 0 6 (unm cc n 0 (dNs d) u).2).2).2.2.2.1 = 0 → (unm cc n 0 (dNs d) u).1 = some s → (unm cc n 0 6 (unm cc n 0 (dNs d) u).2).1 = some k → (unm cc n 1 31 (unm cc n 0 6 (unm cc n 0 (dNs d) u).2).2).1 = some w → HC Y' a (d.1, d.2.1, d.2.2.1 ++ [(s, k, w)], d.2.2.2)) := by
  refine RU_ofQ ⟨rfl, rfl⟩ (Nat.le_of_ble_eq_true rfl) (fun sz Q hQ => ?_)
  have h1 := HLa_1 hHL
  have n1 : dNs d ≤ 8 := hv.1
  have n2 : dNr d ≤ 10 := hv.2.1
  have n3 : dNp d ≤ 8 := hv.2.2.1
  have hHC1 := (HC_ct (u := u) h1).mpr hHC
  have hs8 : ∀ u, sf (ct S u) a 8 = nI (dNs d) := fun u => (ct_o h1).trans hHC.1
  have hs9 : ∀ u, sf (ct S u) a 9 = nI (dNr d) := fun u => (ct_o h1).trans hHC.2.1
  have hs10 : ∀ u, sf (ct S u) a 10 = nI (dNp d) := fun u => (ct_o h1).trans hHC.2.2.1
  refine J_aload_n (pc := 0) dX1_readRelic_0 rfl ?_
  refine J_iconst (pc := 1) (v := 0) dX1_readRelic_1 (by decide) ?_
  refine J_aload_n (pc := 2) dX1_readRelic_2 rfl ?_
  refine J_geti (pc := 3) dX1_readRelic_3 kc1 fl_X1_36 (by first | exact hou_i8 (by assumption) | rfl) ?_
  refine J_t1 (hs8 _) ?_
  refine J_iconst (pc := 6) (v := 1) dX1_readRelic_6 (by decide) ?_
  refine J_isub (pc := 7) dX1_readRelic_7 ?_
  refine J_cnr (pc := 8) (N := mX8_number) dX1_readRelic_8 ml_X1_94 cf_X8_number cv_X8_number (r_X8_number (lo := 0) (hi := dNs d) hx hu rfl rfl (by omega) (by omega)) rfl rfl (Nat.le_of_ble_eq_true rfl) (by decide) (rv_of (ci := 8) rfl rfl rfl) ?_
  refine J_istore_n (pc := 11) dX1_readRelic_11 (by decide) rfl ?_
  refine J_aload_n (pc := 12) dX1_readRelic_12 rfl ?_
  refine J_iconst (pc := 13) (v := 0) dX1_readRelic_13 (by decide) ?_
  refine J_iconst (pc := 14) (v := 5) dX1_readRelic_14 (by decide) ?_
  refine J_cnr (pc := 15) (N := mX8_number) dX1_readRelic_15 ml_X1_94 cf_X8_number cv_X8_number (r_X8_number (lo := 0) (hi := 6) hx (UO_nm hu) rfl rfl (by omega) (by omega)) rfl rfl (Nat.le_of_ble_eq_true rfl) (by decide) (rv_of (ci := 8) rfl rfl rfl) ?_
  refine J_istore_n (pc := 18) dX1_readRelic_18 (by decide) rfl ?_
  refine J_aload_n (pc := 19) dX1_readRelic_19 rfl ?_
  refine J_iconst (pc := 20) (v := 1) dX1_readRelic_20 (by decide) ?_
  refine J_bipush (pc := 21) (v := 30) dX1_readRelic_21 (by decide) ?_
  refine J_cnr (pc := 23) (N := mX8_number) dX1_readRelic_23 ml_X1_94 cf_X8_number cv_X8_number (r_X8_number (lo := 1) (hi := 31) hx (UO_nm (UO_nm hu)) rfl rfl (by omega) (by omega)) rfl rfl (Nat.le_of_ble_eq_true rfl) (by decide) (rv_of (ci := 8) rfl rfl rfl) ?_
  refine J_istore (pc := 26) dX1_readRelic_26 (by decide) rfl ?_
  refine J_aload_n (pc := 28) dX1_readRelic_28 rfl ?_
  refine J_cnr (pc := 29) (N := mX8_isSound) dX1_readRelic_29 ml_X1_46 cf_X8_isSound cv_X8_isSound (r_X8_isSound (UO_nm (UO_nm (UO_nm hu)))) rfl rfl (Nat.le_of_ble_eq_true rfl) (by decide) (rv_of (ci := 8) rfl rfl rfl) ?_
  refine J_ifp_eq (pc := 32) (tgt := 108) dX1_readRelic_32 (by decide) (fun c32 => ?_) (fun c32 => ?_)
  · exact J_ret (pc := 108) rfl rfl dX1_readRelic_108 (by first | exact hQ _ ⟨S, rfl, FRC_r _ _ _, fun _ _ _ z => absurd z c32⟩ | (refine hQ _ ⟨_, rfl, FRC_F (FRC_A (FRC_A (FRC_A (FRC_A (FRC_r _ _ _) (hcA_t (i := 4) (by decide) (by decide))) (hcA_t (i := 5) (by decide) (by decide))) (hcA_t (i := 6) (by decide) (by decide))) (hcA_t (i := 2) (by decide) (by decide))) (hcF_t (k := 9) (by decide) (by decide)), fun x y z _ hx1 hy1 hz1 => ?_⟩; rw [hs1] at hx1; rw [hk1] at hy1; rw [hw1] at hz1; cases hx1; cases hy1; cases hz1; exact HC_rel hHC hv hsn h8))
  · obtain ⟨c32a, w, hw1, _, _⟩ := unm_s c32
    obtain ⟨c32b, k, hk1, _, _⟩ := unm_s c32a
    obtain ⟨_, s, hs1, _, hsn⟩ := unm_s c32b
    rw [hs1, hk1, hw1]
    refine J_aload_n (pc := 35) dX1_readRelic_35 rfl ?_
    refine J_iload_n (pc := 36) dX1_readRelic_36 rfl ?_
    refine J_cvr (pc := 37) (N := mX1_hasSister) dX1_readRelic_37 ml_X1_98 cf_X1_hasSister cv_X1_hasSister (r_X1_hasSister hHL ((HC_ct h1).mpr hHC) hv) rfl rfl (Nat.le_of_ble_eq_true rfl) (by decide) (rv_of (ci := 1) (by first | exact hou_n (by assumption) | rfl) rfl rfl) ?_
    refine J_ifp_eq (pc := 40) (tgt := 108) dX1_readRelic_40 (by decide) (fun c40 => absurd (in_nI hsn (by omega)) c40) (fun c40 => ?_)
    refine J_aload_n (pc := 43) dX1_readRelic_43 rfl ?_
    refine J_geti (pc := 44) dX1_readRelic_44 kc1 fl_X1_40 (by first | exact hou_i9 (by assumption) | rfl) ?_
    refine J_t1 (hs9 _) ?_
    refine J_bipush (pc := 47) (v := 10) dX1_readRelic_47 (by decide) ?_
    refine J_icmp_ge (pc := 49) (tgt := 108) dX1_readRelic_49 (by decide) (fun c49 => absurd c49 (nI_ge (b := 10) (by omega) (by decide))) (fun c49 => ?_)
    refine J_aload_n (pc := 52) dX1_readRelic_52 rfl ?_
    refine J_getr (pc := 53) dX1_readRelic_53 kc1 fl_X1_21 (by first | exact hou_r3 (by assumption) | rfl) ?_
    refine J_aload_n (pc := 56) dX1_readRelic_56 rfl ?_
    refine J_geti (pc := 57) dX1_readRelic_57 kc1 fl_X1_40 (by first | exact hou_i9 (by assumption) | rfl) ?_
    refine J_t1 (hs9 _) ?_
    refine J_iload_n (pc := 60) dX1_readRelic_60 rfl ?_
    refine J_is (pc := 61) dX1_readRelic_61 (by first | exact hou_a3 (by assumption) | rfl) rfl ⟨h8, by decide⟩ ?_
    refine J_aload_n (pc := 62) dX1_readRelic_62 rfl ?_
    refine J_getr (pc := 63) dX1_readRelic_63 kc1 fl_X1_24 (by first | exact hou_r4 (by assumption) | rfl) ?_
    refine J_aload_n (pc := 66) dX1_readRelic_66 rfl ?_
    refine J_geti (pc := 67) dX1_readRelic_67 kc1 fl_X1_40 (by first | exact hou_i9 (by assumption) | rfl) ?_
    refine J_t1 (hs9 _) ?_
    refine J_iload_n (pc := 70) dX1_readRelic_70 rfl ?_
    refine J_is (pc := 71) dX1_readRelic_71 (by first | exact hou_a4 (by assumption) | rfl) rfl ⟨h8, by decide⟩ ?_
    refine J_aload_n (pc := 72) dX1_readRelic_72 rfl ?_
    refine J_getr (pc := 73) dX1_readRelic_73 kc1 fl_X1_27 (by first | exact hou_r5 (by assumption) | rfl) ?_
    refine J_aload_n (pc := 76) dX1_readRelic_76 rfl ?_
    refine J_geti (pc := 77) dX1_readRelic_77 kc1 fl_X1_40 (by first | exact hou_i9 (by assumption) | rfl) ?_
    refine J_t1 (hs9 _) ?_
    refine J_iload (pc := 80) dX1_readRelic_80 rfl ?_
    refine J_is (pc := 82) dX1_readRelic_82 (by first | exact hou_a5 (by assumption) | rfl) rfl ⟨h8, by decide⟩ ?_
    refine J_aload_n (pc := 83) dX1_readRelic_83 rfl ?_
    refine J_getr (pc := 84) dX1_readRelic_84 kc1 fl_X1_15 (by first | exact hou_r1 (by assumption) | rfl) ?_
    refine J_iload_n (pc := 87) dX1_readRelic_87 rfl ?_
    refine J_dup2 (pc := 88) dX1_readRelic_88 rfl rfl ?_
    refine J_il (pc := 89) dX1_readRelic_89 (hou_a1 hHL) rfl ⟨Nat.lt_of_lt_of_le hsn n1, by decide⟩ ?_
    refine J_t1 (y := sa S (a + 2) s) (((sa_o (by omega) _).trans (sa_o (by omega) _)).trans (sa_o (by omega) _)) ?_
    refine J_iconst (pc := 90) (v := 1) dX1_readRelic_90 (by decide) ?_
    refine J_aload_n (pc := 91) dX1_readRelic_91 rfl ?_
    refine J_geti (pc := 92) dX1_readRelic_92 kc1 fl_X1_40 (by first | exact hou_i9 (by assumption) | rfl) ?_
    refine J_t1 (hs9 _) ?_
    refine J_ishl (pc := 95) dX1_readRelic_95 ?_
    refine J_ior (pc := 96) dX1_readRelic_96 ?_
    refine J_is (pc := 97) dX1_readRelic_97 (hou_a1 hHL) rfl ⟨Nat.lt_of_lt_of_le hsn n1, by decide⟩ ?_
    refine J_aload_n (pc := 98) dX1_readRelic_98 rfl ?_
    refine J_dup (pc := 99) dX1_readRelic_99 rfl ?_
    refine J_geti (pc := 100) dX1_readRelic_100 kc1 fl_X1_40 (by first | exact hou_i9 (by assumption) | rfl) ?_
    refine J_t1 (hs9 _) ?_
    refine J_iconst (pc := 103) (v := 1) dX1_readRelic_103 (by decide) ?_
    refine J_iadd (pc := 104) dX1_readRelic_104 ?_
    rw [nI_1]
    refine J_puti (pc := 105) dX1_readRelic_105 kc1 fl_X1_40 (by first | exact hou_i9 (by assumption) | rfl) ⟨rfl, rfl⟩ ?_
    rw [ct_A, ct_A, ct_A, ct_A, ct_F h1]
    exact J_ret (pc := 108) rfl rfl dX1_readRelic_108 (by first | exact hQ _ ⟨S, rfl, FRC_r _ _ _, fun _ _ _ z => absurd z c32⟩ | (refine hQ _ ⟨_, rfl, FRC_F (FRC_A (FRC_A (FRC_A (FRC_A (FRC_r _ _ _) (hcA_t (i := 4) (by decide) (by decide))) (hcA_t (i := 5) (by decide) (by decide))) (hcA_t (i := 6) (by decide) (by decide))) (hcA_t (i := 2) (by decide) (by decide))) (hcF_t (k := 9) (by decide) (by decide)), fun x y z _ hx1 hy1 hz1 => ?_⟩; rw [hs1] at hx1; rw [hk1] at hy1; rw [hw1] at hz1; cases hx1; cases hy1; cases hz1; exact HC_rel hHC hv hsn h8))
theorem r_X1_readVow {g : Gp} {S : Sx} {n : Nat} {cc : Nat → Nat} (hx : CTX S n cc) {u : UT} (hu : UO n u) {a : Nat} {d : HD} (hHL : HLa a) (hHC : HC S a d) (hv : HV d) : RU g mX1_readVow 3 [.ref a, .ref 1] (ct S u) (fun X => ∃ Y', X = ct Y' (unm cc n 0 (dNs d) (unm cc n 0 (dNs d) u).2).2 ∧ FRC (hcF a) (hcA a) S Y' ∧ ∀ s v, (unm cc n 0 (dNs d) (unm cc n 0 (dNs d) u).2).2.2.2.1 = 0 → (unm cc n 0 (dNs d) u).1 = some s → (unm cc n 0 (dNs d) (unm cc n 0 (dNs d) u).2).1 = some v → HC Y' a (d.1, updO d.2.1 s (some v), d.2.2)) := by
  refine RU_ofQ ⟨rfl, rfl⟩ (Nat.le_of_ble_eq_true rfl) (fun sz Q hQ => ?_)
  have h1 := HLa_1 hHL
  have n1 : dNs d ≤ 8 := hv.1
  have n2 : dNr d ≤ 10 := hv.2.1
  have n3 : dNp d ≤ 8 := hv.2.2.1
  have hHC1 := (HC_ct (u := u) h1).mpr hHC
  have hs8 : ∀ u, sf (ct S u) a 8 = nI (dNs d) := fun u => (ct_o h1).trans hHC.1
  have hs9 : ∀ u, sf (ct S u) a 9 = nI (dNr d) := fun u => (ct_o h1).trans hHC.2.1
  have hs10 : ∀ u, sf (ct S u) a 10 = nI (dNp d) := fun u => (ct_o h1).trans hHC.2.2.1
  refine J_aload_n (pc := 0) dX1_readVow_0 rfl ?_
  refine J_iconst (pc := 1) (v := 0) dX1_readVow_1 (by decide) ?_
  refine J_aload_n (pc := 2) dX1_readVow_2 rfl ?_
  refine J_geti (pc := 3) dX1_readVow_3 kc1 fl_X1_36 (by first | exact hou_i8 (by assumption) | rfl) ?_
  refine J_t1 (hs8 _) ?_
  refine J_iconst (pc := 6) (v := 1) dX1_readVow_6 (by decide) ?_
  refine J_isub (pc := 7) dX1_readVow_7 ?_
  refine J_cnr (pc := 8) (N := mX8_number) dX1_readVow_8 ml_X1_94 cf_X8_number cv_X8_number (r_X8_number (lo := 0) (hi := dNs d) hx hu rfl rfl (by omega) (by omega)) rfl rfl (Nat.le_of_ble_eq_true rfl) (by decide) (rv_of (ci := 8) rfl rfl rfl) ?_
  refine J_istore_n (pc := 11) dX1_readVow_11 (by decide) rfl ?_
  refine J_aload_n (pc := 12) dX1_readVow_12 rfl ?_
  refine J_iconst (pc := 13) (v := 0) dX1_readVow_13 (by decide) ?_
  refine J_aload_n (pc := 14) dX1_readVow_14 rfl ?_
  refine J_geti (pc := 15) dX1_readVow_15 kc1 fl_X1_36 (by first | exact hou_i8 (by assumption) | rfl) ?_
  refine J_t1 (hs8 _) ?_
  refine J_iconst (pc := 18) (v := 1) dX1_readVow_18 (by decide) ?_
  refine J_isub (pc := 19) dX1_readVow_19 ?_
  refine J_cnr (pc := 20) (N := mX8_number) dX1_readVow_20 ml_X1_94 cf_X8_number cv_X8_number (r_X8_number (lo := 0) (hi := dNs d) hx (UO_nm hu) rfl rfl (by omega) (by omega)) rfl rfl (Nat.le_of_ble_eq_true rfl) (by decide) (rv_of (ci := 8) rfl rfl rfl) ?_
  refine J_istore_n (pc := 23) dX1_readVow_23 (by decide) rfl ?_
  refine J_aload_n (pc := 24) dX1_readVow_24 rfl ?_
  refine J_cnr (pc := 25) (N := mX8_isSound) dX1_readVow_25 ml_X1_46 cf_X8_isSound cv_X8_isSound (r_X8_isSound (UO_nm (UO_nm hu))) rfl rfl (Nat.le_of_ble_eq_true rfl) (by decide) (rv_of (ci := 8) rfl rfl rfl) ?_
  refine J_ifp_eq (pc := 28) (tgt := 46) dX1_readVow_28 (by decide) (fun c28 => ?_) (fun c28 => ?_)
  · exact J_ret (pc := 46) rfl rfl dX1_readVow_46 (by first | exact hQ _ ⟨S, rfl, FRC_r _ _ _, fun _ _ z => absurd z c28⟩ | (refine hQ _ ⟨_, rfl, FRC_A (FRC_r _ _ _) (hcA_t (i := 3) (by decide) (by decide)), fun x y _ hx1 hy1 => ?_⟩; rw [hs1] at hx1; rw [hv1] at hy1; cases hx1; cases hy1; exact HC_vow hHC))
  · obtain ⟨c28a, v, hv1, _, _⟩ := unm_s c28
    obtain ⟨_, s, hs1, _, hsn⟩ := unm_s c28a
    rw [hs1, hv1]
    refine J_aload_n (pc := 31) dX1_readVow_31 rfl ?_
    refine J_iload_n (pc := 32) dX1_readVow_32 rfl ?_
    refine J_cvr (pc := 33) (N := mX1_hasSister) dX1_readVow_33 ml_X1_98 cf_X1_hasSister cv_X1_hasSister (r_X1_hasSister hHL ((HC_ct h1).mpr hHC) hv) rfl rfl (Nat.le_of_ble_eq_true rfl) (by decide) (rv_of (ci := 1) (by first | exact hou_n (by assumption) | rfl) rfl rfl) ?_
    refine J_ifp_eq (pc := 36) (tgt := 46) dX1_readVow_36 (by decide) (fun c36 => absurd (in_nI hsn (by omega)) c36) (fun c36 => ?_)
    refine J_aload_n (pc := 39) dX1_readVow_39 rfl ?_
    refine J_getr (pc := 40) dX1_readVow_40 kc1 fl_X1_18 (by first | exact hou_r2 (by assumption) | rfl) ?_
    refine J_iload_n (pc := 43) dX1_readVow_43 rfl ?_
    refine J_iload_n (pc := 44) dX1_readVow_44 rfl ?_
    refine J_is (pc := 45) dX1_readVow_45 (by first | exact hou_a2 (by assumption) | rfl) rfl ⟨Nat.lt_of_lt_of_le hsn n1, by decide⟩ ?_
    exact J_ret (pc := 46) rfl rfl dX1_readVow_46 (by first | exact hQ _ ⟨S, rfl, FRC_r _ _ _, fun _ _ z => absurd z c28⟩ | (refine hQ _ ⟨_, rfl, FRC_A (FRC_r _ _ _) (hcA_t (i := 3) (by decide) (by decide)), fun x y _ hx1 hy1 => ?_⟩; rw [hs1] at hx1; rw [hv1] at hy1; cases hx1; cases hy1; exact HC_vow hHC))
theorem UR_0 {u : UT} {t : PT} (h : UR u t) (h0 : t.2.1 = 0) : u.2.2.1 = 0 := h.1.trans h0
theorem UR_s {u : UT} {t : PT} (h : UR u t) (h0 : u.2.2.1 = 0) : t.2.1 = 0 := h.1.symm.trans h0
/-- what a clause leaves -/
def HRd (S : Sx) (a n : Nat) (s : HS) (X : Sx) : Prop := ∃ Y' u', X = ct Y' u' ∧ UO n u' ∧ UR u' s.1 ∧ FRC (hcF a) (hcA a) S Y' ∧ (s.1.2.1 = 0 → HC Y' a s.2.2)
theorem r_X1_readClause {g : Gp} {S : Sx} {n : Nat} {cc : Nat → Nat} (hx : CTX S n cc) {u : UT} (hu : UO n u) {s : HS} (hur : UR u s.1) (hs0 : s.1.2.1 = 0) (hpo : PO n s.1) (h60 : s.2.1 ≤ 60) {a : Nat} (hHL : HLa a) (hHC : HC S a s.2.2) (hv : HV s.2.2) : RU g mX1_readClause 6 [.ref a, .ref 1, .int (nI s.2.1)] (ct S u) (HRd S a n (hcl cc n s)) := by
  refine RU_ofQ ⟨rfl, rfl⟩ (Nat.le_of_ble_eq_true rfl) (fun sz Q hQ => ?_)
  have h1 := HLa_1 hHL
  have n1 : dNs s.2.2 ≤ 8 := hv.1
  have n2 : dNr s.2.2 ≤ 10 := hv.2.1
  have n3 : dNp s.2.2 ≤ 8 := hv.2.2.1
  have eu : u.1 = s.1.1 := hur.2.2 hs0
  have hle := pbl_le cc hu.1
  unfold hcl at hQ
  obtain ⟨b, hb⟩ : ∃ b, pbl cc n s.1.1 = b := ⟨_, rfl⟩
  have hbu : pbl cc n u.1 = b := by rw [eu]; exact hb
  rw [hbu] at hle
  rw [hb] at hQ
  obtain ⟨w0, hw0⟩ : ∃ w0, pwe cc n b = w0 := ⟨_, rfl⟩
  have w1 : b ≤ w0 := by rw [← hw0]; exact pwe_ge cc n b
  have w2 : w0 ≤ n := by rw [← hw0]; exact pwe_le cc hle
  rw [hw0] at hQ
  have hU : UO n (w0, b, u.2.2) := ⟨w2, w1, hu.2.2⟩
  have hur1 : UR (w0, b, u.2.2) (w0, s.1.2) := ⟨hur.1, hur.2.1, fun _ => rfl⟩
  have u0 : u.2.2.1 = 0 := UR_0 hur hs0
  have dem : ∀ X t d' Y' u', X = ct Y' u' → UO n u' → UR u' t → FRC (hcF a) (hcA a) S Y' → (t.2.1 = 0 → HC Y' a d') → (∀ X, HRd S a n (psg cc n 59 t, s.2.1 + 1, d') X → Q (.inl none) (hs X) sz) → ∀ l3, J g mX1_readClause 6 [] 80 [some (.ref a), some (.ref 1), some (.int (nI s.2.1)), l3] [] (hs X) sz 0 0 Q := by
    intro X t d' Y' u' hX hu' hur' hfr hhc hQ' l3
    subst hX
    have hx' := CTX_F hfr (hcF_1 hHL) (hcA_2 hHL) hx
    refine J_aload_n (pc := 80) dX1_readClause_80 rfl ?_
    refine J_bipush (pc := 81) (v := 59) dX1_readClause_81 (by decide) ?_
    refine J_cnv (pc := 83) (N := mX8_demand) dX1_readClause_83 ml_X1_90 cf_X8_demand cv_X8_demand (r_X8_demand (c := 59) hx' hu' (by decide)) rfl rfl (Nat.le_of_ble_eq_true rfl) (by decide) (rv_of (ci := 8) rfl rfl rfl) ?_
    exact J_ret (pc := 86) rfl rfl dX1_readClause_86 (hQ' _ ⟨Y', _, rfl, UO_dm hx' hu' (by decide), UR_dm hur', hfr, fun z => hhc (psg_ok z).1⟩)
  refine J_aload_n (pc := 0) dX1_readClause_0 rfl ?_
  refine J_ldcs (pc := 1) (i := 0) dX1_readClause_1 rfl rfl ?_
  refine J_cnr (pc := 3) (N := mX8_word) dX1_readClause_3 ml_X1_62 cf_X8_word cv_X8_word (r_X8_word hx hu (i := 0) (by decide) pok_0) rfl rfl (Nat.le_of_ble_eq_true rfl) (by decide) (rv_of (ci := 8) rfl rfl rfl) ?_
  have hwd : uwd cc n (wds 0) u = (match wix cc n b wHou 0 with
    | some k => (some k, (w0, b, u.2.2))
    | none => (none, um 1 b (w0, b, u.2.2))) := by
    unfold uwd
    rw [hbu, hw0]
    rfl
  cases hk : wix cc n b wHou 0 with
  | none =>
    rw [hk] at hQ hwd
    have hwd : uwd cc n (wds 0) u = (none, um 1 b (w0, b, u.2.2)) := hwd
    have hQ : ∀ X, HRd S a n ((b, 1, b), s.2) X → Q (.inl none) (hs X) sz := hQ
    rw [hwd]
    refine J_istore_n (pc := 6) dX1_readClause_6 (by decide) rfl ?_
    refine J_iload_n (pc := 7) dX1_readClause_7 rfl ?_
    refine J_iconst (pc := 8) (v := -1) dX1_readClause_8 (by decide) ?_
    refine J_icmp_ne (pc := 9) (tgt := 13) dX1_readClause_9 (by decide) (fun c9 => absurd rfl c9) (fun c9 => ?_)
    exact J_ret (pc := 12) rfl rfl dX1_readClause_12 (hQ _ ⟨S, _, rfl, UO_um hU (by decide) hle, by unfold um; rw [if_pos (show u.2.2.1 = 0 from u0)]; exact ⟨rfl, fun _ => rfl, fun z => absurd z (Nat.succ_ne_zero 0)⟩, FRC_r _ _ _, fun z => absurd z (Nat.succ_ne_zero 0)⟩)
  | some k =>
    rw [hk] at hQ hwd
    have hwd : uwd cc n (wds 0) u = (some k, (w0, b, u.2.2)) := hwd
    have hQ : ∀ X, HRd S a n (if s.2.1 = 60 ∨ hfull s.2.2 k = true then ((b, 3, b), s.2) else (psg cc n 59 (hck cc n k (w0, s.1.2) s.2.2).1, s.2.1 + 1, (hck cc n k (w0, s.1.2) s.2.2).2)) X → Q (.inl none) (hs X) sz := hQ
    rw [hwd]
    have k4 : k < 4 := (wix_lt hk).2
    have tmany : s.2.1 = 60 ∨ hfull s.2.2 k = true → ∀ l3, J g mX1_readClause 6 [] 27 [some (.ref a), some (.ref 1), some (.int (nI s.2.1)), l3] [] (hs (ct S (w0, b, u.2.2))) sz 0 0 Q := by
      intro hor l3
      rw [if_pos hor] at hQ
      refine J_aload_n (pc := 27) dX1_readClause_27 rfl ?_
      refine J_iconst (pc := 28) (v := 3) dX1_readClause_28 (by decide) ?_
      refine J_aload_n (pc := 29) dX1_readClause_29 rfl ?_
      refine J_getiN (pc := 30) dX1_readClause_30 kc8 fl_X1_70 rfl ?_
      refine J_t1 (y := nI b) rfl ?_
      refine J_cnv (pc := 33) (N := mX8_mark) dX1_readClause_33 ml_X1_73 cf_X8_mark cv_X8_mark (r_X8_mark (k := 3) hU (by decide)) rfl rfl (Nat.le_of_ble_eq_true rfl) (by decide) (rv_of (ci := 8) rfl rfl rfl) ?_
      exact J_ret (pc := 36) rfl rfl dX1_readClause_36 (hQ _ ⟨S, _, rfl, UO_um hU (by decide) hle, by unfold um; rw [if_pos (show u.2.2.1 = 0 from u0)]; exact ⟨rfl, fun _ => rfl, fun z => absurd z (Nat.succ_ne_zero 2)⟩, FRC_r _ _ _, fun z => absurd z (Nat.succ_ne_zero 2)⟩)
    by_cases hor : s.2.1 = 60 ∨ hfull s.2.2 k = true
    · refine J_istore_n (pc := 6) dX1_readClause_6 (by decide) rfl ?_
      refine J_iload_n (pc := 7) dX1_readClause_7 rfl ?_
      refine J_iconst (pc := 8) (v := -1) dX1_readClause_8 (by decide) ?_
      refine J_icmp_ne (pc := 9) (tgt := 13) dX1_readClause_9 (by decide) (fun c9 => ?_) (fun c9 => absurd c9 (nI_nm (k := k) (by omega)))
      refine J_iload_n (pc := 13) dX1_readClause_13 rfl ?_
      refine J_bipush (pc := 14) (v := 60) dX1_readClause_14 (by decide) ?_
      refine J_icmp_eq (pc := 16) (tgt := 27) dX1_readClause_16 (by decide) (fun c16 => ?_) (fun c16 => ?_)
      · exact tmany hor _
      · have nf : hfull s.2.2 k = true := hor.resolve_left (fun q => c16 (by rw [q]; rfl))
        refine J_aload_n (pc := 19) dX1_readClause_19 rfl ?_
        refine J_iload_n (pc := 20) dX1_readClause_20 rfl ?_
        refine J_cvr (pc := 21) (N := mX1_isFull) dX1_readClause_21 ml_X1_66 cf_X1_isFull cv_X1_isFull (r_X1_isFull hHL hHC hv k4) rfl rfl (Nat.le_of_ble_eq_true rfl) (by decide) (rv_of (ci := 1) (by first | exact hou_n (by assumption) | rfl) rfl rfl) ?_
        refine J_t1 (y := bI (decide (hfull s.2.2 k = true))) (by cases hfull s.2.2 k <;> rfl) ?_
        refine J_ifp_eq (pc := 24) (tgt := 37) dX1_readClause_24 (by decide) (fun c24 => absurd nf c24) (fun c24 => ?_)
        exact tmany hor _
    · rw [if_neg hor] at hQ
      have nf : ¬ hfull s.2.2 k = true := fun q => hor (Or.inr q)
      have n60 : ¬ s.2.1 = 60 := fun q => hor (Or.inl q)
      have f0 : s.2.2.1.length = dNs s.2.2 := rfl
      have f1 : s.2.2.2.2.1.length = dNr s.2.2 := rfl
      have f2 : s.2.2.2.2.2.length = dNp s.2.2 := rfl
      refine J_istore_n (pc := 6) dX1_readClause_6 (by decide) rfl ?_
      refine J_iload_n (pc := 7) dX1_readClause_7 rfl ?_
      refine J_iconst (pc := 8) (v := -1) dX1_readClause_8 (by decide) ?_
      refine J_icmp_ne (pc := 9) (tgt := 13) dX1_readClause_9 (by decide) (fun c9 => ?_) (fun c9 => absurd c9 (nI_nm (k := k) (by omega)))
      refine J_iload_n (pc := 13) dX1_readClause_13 rfl ?_
      refine J_bipush (pc := 14) (v := 60) dX1_readClause_14 (by decide) ?_
      refine J_icmp_eq (pc := 16) (tgt := 27) dX1_readClause_16 (by decide) (fun c16 => absurd ((nI_eq (b := 60) (by omega) (by omega)).mp c16) n60) (fun c16 => ?_)
      refine J_aload_n (pc := 19) dX1_readClause_19 rfl ?_
      refine J_iload_n (pc := 20) dX1_readClause_20 rfl ?_
      refine J_cvr (pc := 21) (N := mX1_isFull) dX1_readClause_21 ml_X1_66 cf_X1_isFull cv_X1_isFull (r_X1_isFull hHL hHC hv k4) rfl rfl (Nat.le_of_ble_eq_true rfl) (by decide) (rv_of (ci := 1) (by first | exact hou_n (by assumption) | rfl) rfl rfl) ?_
      refine J_t1 (y := bI (decide (hfull s.2.2 k = true))) (by cases hfull s.2.2 k <;> rfl) ?_
      refine J_ifp_eq (pc := 24) (tgt := 37) dX1_readClause_24 (by decide) (fun c24 => ?_) (fun c24 => absurd c24 nf)
      match k, k4 with
      | 0, _ =>
        have h8 : dNs s.2.2 < 8 := by
          have : ¬ dNs s.2.2 = 8 := fun q => nf (by unfold hfull; rw [f0, q]; rfl)
          omega
        refine J_iload_n (pc := 37) dX1_readClause_37 rfl ?_
        refine J_if_ne (pc := 38) (tgt := 49) dX1_readClause_38 (by decide) (fun c38 => absurd rfl c38) (fun c38 => ?_)
        refine J_aload_n (pc := 41) dX1_readClause_41 rfl ?_
        refine J_aload_n (pc := 42) dX1_readClause_42 rfl ?_
        refine J_cvU (pc := 43) (N := mX1_readSister) dX1_readClause_43 ml_X1_77 cf_X1_readSister cv_X1_readSister (r_X1_readSister hx hU hHL hHC hv h8) rfl rfl (Nat.le_of_ble_eq_true rfl) (by decide) (rv_of (ci := 1) (by first | exact hou_n (by assumption) | rfl) rfl rfl) ?_
        intro X43 hX43
        refine J_goto (pc := 46) (tgt := 80) dX1_readClause_46 (by decide) ?_
        have r1 := UR_nm (cc := cc) (n := n) (lo := 0) (hi := 16) hur1 (by decide)
        obtain ⟨Y', eX, hfr, hh⟩ := hX43
        exact dem X43 _ (s.2.2.1 ++ [(pnum cc n 0 16 (w0, s.1.2)).1], s.2.2.2) Y' _ eX (UO_nm hU) r1.1 hfr (fun z => hh _ (UR_0 r1.1 z) (r1.2 z)) hQ _
      | 1, _ =>
        have h8 : dNr s.2.2 < 10 := by
          have : ¬ dNr s.2.2 = 10 := fun q => nf (by unfold hfull; rw [f1, q]; rfl)
          omega
        refine J_iload_n (pc := 37) dX1_readClause_37 rfl ?_
        refine J_if_ne (pc := 38) (tgt := 49) dX1_readClause_38 (by decide) (fun c38 => ?_) (fun c38 => absurd c38 (by show ¬ nI 1 = 0; decide))
        refine J_iload_n (pc := 49) dX1_readClause_49 rfl ?_
        refine J_iconst (pc := 50) (v := 1) dX1_readClause_50 (by decide) ?_
        refine J_icmp_ne (pc := 51) (tgt := 62) dX1_readClause_51 (by decide) (fun c51 => absurd rfl c51) (fun c51 => ?_)
        refine J_aload_n (pc := 54) dX1_readClause_54 rfl ?_
        refine J_aload_n (pc := 55) dX1_readClause_55 rfl ?_
        refine J_cvU (pc := 56) (N := mX1_readRelic) dX1_readClause_56 ml_X1_81 cf_X1_readRelic cv_X1_readRelic (r_X1_readRelic hx hU hHL hHC hv h8) rfl rfl (Nat.le_of_ble_eq_true rfl) (by decide) (rv_of (ci := 1) (by first | exact hou_n (by assumption) | rfl) rfl rfl) ?_
        intro X56 hX56
        refine J_goto (pc := 59) (tgt := 80) dX1_readClause_59 (by decide) ?_
        have r1 := UR_nm (cc := cc) (n := n) (lo := 0) (hi := dNs s.2.2) hur1 (by omega)
        have r2 := UR_nm (cc := cc) (n := n) (lo := 0) (hi := 6) r1.1 (by decide)
        have r3 := UR_nm (cc := cc) (n := n) (lo := 1) (hi := 31) r2.1 (by decide)
        obtain ⟨Y', eX, hfr, hh⟩ := hX56
        have hn9 := hx.2.2.2 n (Nat.le_refl _)
        exact dem X56 _ (s.2.2.1, s.2.2.2.1, s.2.2.2.2.1 ++ [((pnum cc n 0 (dNs s.2.2) (w0, s.1.2)).1, (pnum cc n 0 6 (pnum cc n 0 (dNs s.2.2) (w0, s.1.2)).2).1, (pnum cc n 1 31 (pnum cc n 0 6 (pnum cc n 0 (dNs s.2.2) (w0, s.1.2)).2).2).1)], s.2.2.2.2.2) Y' _ eX (UO_nm (UO_nm (UO_nm hU))) r3.1 hfr (fun z => by
          have z2 := UR_s r2.1 (unm_s (UR_0 r3.1 z)).1
          have z1 := UR_s r1.1 (unm_s (UR_0 r2.1 z2)).1
          exact hh _ _ _ (UR_0 r3.1 z) (r1.2 z1) (r2.2 z2) (r3.2 z)) hQ _
      | 2, _ =>
        have h8 : dNp s.2.2 < 8 := by
          have : ¬ dNp s.2.2 = 8 := fun q => nf (by unfold hfull; rw [f2, q]; rfl)
          omega
        refine J_iload_n (pc := 37) dX1_readClause_37 rfl ?_
        refine J_if_ne (pc := 38) (tgt := 49) dX1_readClause_38 (by decide) (fun c38 => ?_) (fun c38 => absurd c38 (by show ¬ nI 2 = 0; decide))
        refine J_iload_n (pc := 49) dX1_readClause_49 rfl ?_
        refine J_iconst (pc := 50) (v := 1) dX1_readClause_50 (by decide) ?_
        refine J_icmp_ne (pc := 51) (tgt := 62) dX1_readClause_51 (by decide) (fun c51 => ?_) (fun c51 => absurd c51 (by show ¬ nI 2 = 1; decide))
        refine J_iload_n (pc := 62) dX1_readClause_62 rfl ?_
        refine J_iconst (pc := 63) (v := 2) dX1_readClause_63 (by decide) ?_
        refine J_icmp_ne (pc := 64) (tgt := 75) dX1_readClause_64 (by decide) (fun c64 => absurd rfl c64) (fun c64 => ?_)
        refine J_aload_n (pc := 67) dX1_readClause_67 rfl ?_
        refine J_aload_n (pc := 68) dX1_readClause_68 rfl ?_
        refine J_cvU (pc := 69) (N := mX1_readPilgrim) dX1_readClause_69 ml_X1_84 cf_X1_readPilgrim cv_X1_readPilgrim (r_X1_readPilgrim hx hU hHL hHC hv h8) rfl rfl (Nat.le_of_ble_eq_true rfl) (by decide) (rv_of (ci := 1) (by first | exact hou_n (by assumption) | rfl) rfl rfl) ?_
        intro X69 hX69
        refine J_goto (pc := 72) (tgt := 80) dX1_readClause_72 (by decide) ?_
        have r1 := UR_nm (cc := cc) (n := n) (lo := 0) (hi := 6) hur1 (by decide)
        have r2 := UR_nm (cc := cc) (n := n) (lo := 1) (hi := 100) r1.1 (by decide)
        obtain ⟨Y', eX, hfr, hh⟩ := hX69
        exact dem X69 _ (s.2.2.1, s.2.2.2.1, s.2.2.2.2.1, s.2.2.2.2.2 ++ [((pnum cc n 0 6 (w0, s.1.2)).1, (pnum cc n 1 100 (pnum cc n 0 6 (w0, s.1.2)).2).1)]) Y' _ eX (UO_nm (UO_nm hU)) r2.1 hfr (fun z => by
          have z1 := UR_s r1.1 (unm_s (UR_0 r2.1 z)).1
          exact hh _ _ (UR_0 r2.1 z) (r1.2 z1) (r2.2 z)) hQ _
      | 3, _ =>
        refine J_iload_n (pc := 37) dX1_readClause_37 rfl ?_
        refine J_if_ne (pc := 38) (tgt := 49) dX1_readClause_38 (by decide) (fun c38 => ?_) (fun c38 => absurd c38 (by show ¬ nI 3 = 0; decide))
        refine J_iload_n (pc := 49) dX1_readClause_49 rfl ?_
        refine J_iconst (pc := 50) (v := 1) dX1_readClause_50 (by decide) ?_
        refine J_icmp_ne (pc := 51) (tgt := 62) dX1_readClause_51 (by decide) (fun c51 => ?_) (fun c51 => absurd c51 (by show ¬ nI 3 = 1; decide))
        refine J_iload_n (pc := 62) dX1_readClause_62 rfl ?_
        refine J_iconst (pc := 63) (v := 2) dX1_readClause_63 (by decide) ?_
        refine J_icmp_ne (pc := 64) (tgt := 75) dX1_readClause_64 (by decide) (fun c64 => ?_) (fun c64 => absurd c64 (by show ¬ nI 3 = 2; decide))
        refine J_aload_n (pc := 75) dX1_readClause_75 rfl ?_
        refine J_aload_n (pc := 76) dX1_readClause_76 rfl ?_
        refine J_cvU (pc := 77) (N := mX1_readVow) dX1_readClause_77 ml_X1_87 cf_X1_readVow cv_X1_readVow (r_X1_readVow hx hU hHL hHC hv) rfl rfl (Nat.le_of_ble_eq_true rfl) (by decide) (rv_of (ci := 1) (by first | exact hou_n (by assumption) | rfl) rfl rfl) ?_
        intro X77 hX77
        have r1 := UR_nm (cc := cc) (n := n) (lo := 0) (hi := dNs s.2.2) hur1 (by omega)
        have r2 := UR_nm (cc := cc) (n := n) (lo := 0) (hi := dNs s.2.2) r1.1 (by omega)
        obtain ⟨Y', eX, hfr, hh⟩ := hX77
        exact dem X77 _ (s.2.2.1, updO s.2.2.2.1 (pnum cc n 0 (dNs s.2.2) (w0, s.1.2)).1 (some (pnum cc n 0 (dNs s.2.2) (pnum cc n 0 (dNs s.2.2) (w0, s.1.2)).2).1), s.2.2.2.2) Y' _ eX (UO_nm (UO_nm hU)) r2.1 hfr (fun z => by
          have z1 := UR_s r1.1 (unm_s (UR_0 r2.1 z)).1
          exact hh _ _ (UR_0 r2.1 z) (r1.2 z1) (r2.2 z)) hQ _
theorem hcl_at {cc : Nat → Nat} {n : Nat} {s : HS} (h : (hcl cc n s).1.2.1 = 0) : (hcl cc n s).2.1 = s.2.1 + 1 ∧ s.2.1 ≠ 60 := by
  unfold hcl at h ⊢
  split at h
  · exact absurd h (Nat.succ_ne_zero 0)
  · split at h
    · exact absurd h (Nat.succ_ne_zero 2)
    · next q => rw [if_neg q]; exact ⟨rfl, fun z => q (Or.inl z)⟩
/-- a house's text comes to an end -/
theorem hlp_ex {cc : Nat → Nat} {n : Nat} : ∀ (m : Nat) (s : HS), s.2.1 + m = 60 → ∃ r, hlp cc n (m + 2) s = some r := by
  intro m
  induction m with
  | zero =>
    intro s hs
    by_cases q : s.1.2.1 = 0 ∧ s.1.1 < n
    · have h1 : hlp cc n 2 s = hlp cc n 1 ((pbl cc n (hcl cc n s).1.1, (hcl cc n s).1.2), (hcl cc n s).2) := if_pos q
      rw [h1]
      exact ⟨_, if_neg (fun z => (hcl_at (cc := cc) (n := n) (s := s) z.1).2 (by omega))⟩
    · exact ⟨s, if_neg q⟩
  | succ m ih =>
    intro s hs
    by_cases q : s.1.2.1 = 0 ∧ s.1.1 < n
    · have h1 : hlp cc n (m + 1 + 2) s = hlp cc n (m + 2) ((pbl cc n (hcl cc n s).1.1, (hcl cc n s).1.2), (hcl cc n s).2) := if_pos q
      rw [h1]
      by_cases z : (hcl cc n s).1.2.1 = 0
      · exact ih _ (by show (hcl cc n s).2.1 + m = 60; rw [(hcl_at z).1]; omega)
      · exact ⟨_, if_neg (fun y => z y.1)⟩
    · exact ⟨s, if_neg q⟩
theorem house_loop {g : Gp} {S : Sx} {n a : Nat} {cc : Nat → Nat} (hx : CTX S n cc) (hHL : HLa a) {sz : Nat} {Q : Po} : ∀ (f : Nat) (s r : HS) (Y : Sx) (u : UT), hlp cc n f s = some r → UO n u → PO n s.1 → UR (unx cc n u) s.1 → FRC (hcF a) (hcA a) S Y → (s.1.2.1 = 0 → s.2.1 ≤ 60 ∧ HC Y a s.2.2 ∧ HV s.2.2) → (∀ X, HRd S a n r X → Q (.inl none) (hs X) sz) → ∀ x, (s.1.2.1 = 0 → x = nI s.2.1) → J g mX1_read 7 [] 17 [some (.ref a), some (.ref 1), some (.int x)] [] (hs (ct Y u)) sz 0 0 Q := by
  intro f
  induction f with
  | zero => intro s r Y u h; cases h
  | succ f ih =>
    intro s r Y u h hu hpo hur hfr hsd hQ x hxx
    have n6 := hx.2.1
    have hxY := CTX_F hfr (hcF_1 hHL) (hcA_2 hHL) hx
    have h : (if s.1.2.1 = 0 ∧ s.1.1 < n then hlp cc n f ((pbl cc n (hcl cc n s).1.1, (hcl cc n s).1.2), (hcl cc n s).2) else some s) = some r := h
    have hub : (unx cc n u).1 = pbl cc n u.1 := rfl
    have hle := pbl_le cc hu.1
    by_cases q0 : s.1.2.1 = 0
    · obtain ⟨h60, hHC, hv⟩ := hsd q0
      have hx0 := hxx q0
      subst hx0
      have u0 : u.2.2.1 = 0 := (UR_0 hur q0 : (unx cc n u).2.2.1 = 0)
      have eu : pbl cc n u.1 = s.1.1 := hur.2.2 q0
      by_cases q1 : s.1.1 < n
      · rw [if_pos ⟨q0, q1⟩] at h
        have hpbl : pbl cc n s.1.1 = s.1.1 := by rw [← eu, pbl_pbl (hx.2.2.2 n (Nat.le_refl _)) hu.1]
        obtain ⟨S', hT⟩ := TX_of hx
        refine J_iload_n (pc := 17) dX1_read_17 rfl ?_
        refine J_bipush (pc := 18) (v := 60) dX1_read_18 (by decide) ?_
        refine J_icmp_gt (pc := 20) (tgt := 50) dX1_read_20 (by decide) (fun c20 => absurd c20 (nI_nlt (a := 60) (by omega) (by omega))) (fun c20 => ?_)
        refine J_aload_n (pc := 23) dX1_read_23 rfl ?_
        refine J_cnr (pc := 24) (N := mX8_isSound) dX1_read_24 ml_X1_46 cf_X8_isSound cv_X8_isSound (r_X8_isSound hu) rfl rfl (Nat.le_of_ble_eq_true rfl) (by decide) (rv_of (ci := 8) rfl rfl rfl) ?_
        refine J_ifp_eq (pc := 27) (tgt := 50) dX1_read_27 (by decide) (fun c27 => absurd u0 c27) (fun c27 => ?_)
        refine J_aload_n (pc := 30) dX1_read_30 rfl ?_
        refine J_cnr (pc := 31) (N := mX8_next) dX1_read_31 ml_X1_52 cf_X8_next cv_X8_next (r_X8_next hxY hu) rfl rfl (Nat.le_of_ble_eq_true rfl) (by decide) (rv_of (ci := 8) rfl rfl rfl) ?_
        refine J_iconst (pc := 34) (v := -1) dX1_read_34 (by decide) ?_
        refine J_icmp_eq (pc := 35) (tgt := 50) dX1_read_35 (by decide) (fun c35 => absurd c35 (by rw [eu]; unfold bv; rw [if_neg (by have := (hx.2.2.1 s.1.1 q1).2; omega)]; exact nI_nm (by have := (hx.2.2.1 s.1.1 q1).2; omega))) (fun c35 => ?_)
        refine J_aload_n (pc := 38) dX1_read_38 rfl ?_
        refine J_aload_n (pc := 39) dX1_read_39 rfl ?_
        refine J_iload_n (pc := 40) dX1_read_40 rfl ?_
        refine J_cvU (pc := 41) (N := mX1_readClause) dX1_read_41 ml_X1_56 cf_X1_readClause cv_X1_readClause (r_X1_readClause hxY (UO_nx hu) hur q0 hpo h60 hHL hHC hv) rfl rfl (Nat.le_of_ble_eq_true rfl) (by decide) (rv_of (ci := 1) (by first | exact hou_n (by assumption) | rfl) rfl rfl) ?_
        intro X41 hX41
        obtain ⟨Y', u', rfl, hu', hur', hfr', hhc'⟩ := hX41
        have hp2 := PO_hcl hT hpo
        refine J_iinc (pc := 44) (v := 1) dX1_read_44 rfl (by decide) rfl ?_
        rw [nI_1]
        refine J_goto (pc := 47) (tgt := 17) dX1_read_47 (by decide) ?_
        refine ih ((pbl cc n (hcl cc n s).1.1, (hcl cc n s).1.2), (hcl cc n s).2) r Y' u' h hu' ⟨pbl_le cc hp2.1, hp2.2⟩ (UR_nx hur') (FRC_t hfr hfr') (fun z => ⟨?_, hhc' z, HV_cl hT hpo hv z⟩) hQ _ (fun z => ?_)
        · have := hcl_at (show (hcl cc n s).1.2.1 = 0 from z)
          show (hcl cc n s).2.1 ≤ 60
          omega
        · rw [(hcl_at (show (hcl cc n s).1.2.1 = 0 from z)).1]
      · rw [if_neg (fun z => q1 z.2)] at h
        cases h
        refine J_iload_n (pc := 17) dX1_read_17 rfl ?_
        refine J_bipush (pc := 18) (v := 60) dX1_read_18 (by decide) ?_
        refine J_icmp_gt (pc := 20) (tgt := 50) dX1_read_20 (by decide) (fun c20 => absurd c20 (nI_nlt (a := 60) (by omega) (by omega))) (fun c20 => ?_)
        refine J_aload_n (pc := 23) dX1_read_23 rfl ?_
        refine J_cnr (pc := 24) (N := mX8_isSound) dX1_read_24 ml_X1_46 cf_X8_isSound cv_X8_isSound (r_X8_isSound hu) rfl rfl (Nat.le_of_ble_eq_true rfl) (by decide) (rv_of (ci := 8) rfl rfl rfl) ?_
        refine J_ifp_eq (pc := 27) (tgt := 50) dX1_read_27 (by decide) (fun c27 => absurd u0 c27) (fun c27 => ?_)
        refine J_aload_n (pc := 30) dX1_read_30 rfl ?_
        refine J_cnr (pc := 31) (N := mX8_next) dX1_read_31 ml_X1_52 cf_X8_next cv_X8_next (r_X8_next hxY hu) rfl rfl (Nat.le_of_ble_eq_true rfl) (by decide) (rv_of (ci := 8) rfl rfl rfl) ?_
        refine J_iconst (pc := 34) (v := -1) dX1_read_34 (by decide) ?_
        refine J_icmp_eq (pc := 35) (tgt := 50) dX1_read_35 (by decide) (fun c35 => ?_) (fun c35 => absurd (by rw [eu]; unfold bv; rw [if_pos (hx.2.2.2 s.1.1 (by omega))]) c35)
        exact J_ret (pc := 50) rfl rfl dX1_read_50 (hQ _ ⟨Y, _, rfl, UO_nx hu, hur, hfr, fun _ => hHC⟩)
    · rw [if_neg (fun z => q0 z.1)] at h
      cases h
      have u0 : ¬ u.2.2.1 = 0 := fun z => q0 (UR_s hur (show (unx cc n u).2.2.1 = 0 from z))
      have hur2 : UR u s.1 := ⟨hur.1, hur.2.1, fun z => absurd z q0⟩
      have fin : J g mX1_read 7 [] 50 [some (.ref a), some (.ref 1), some (.int x)] [] (hs (ct Y u)) sz 0 0 Q := J_ret (pc := 50) rfl rfl dX1_read_50 (hQ _ ⟨Y, u, rfl, hu, hur2, hfr, fun z => absurd z q0⟩)
      refine J_iload_n (pc := 17) dX1_read_17 rfl ?_
      refine J_bipush (pc := 18) (v := 60) dX1_read_18 (by decide) ?_
      refine J_icmp_gt (pc := 20) (tgt := 50) dX1_read_20 (by decide) (fun c20 => ?_) (fun c20 => ?_)
      · exact fin
      · refine J_aload_n (pc := 23) dX1_read_23 rfl ?_
        refine J_cnr (pc := 24) (N := mX8_isSound) dX1_read_24 ml_X1_46 cf_X8_isSound cv_X8_isSound (r_X8_isSound hu) rfl rfl (Nat.le_of_ble_eq_true rfl) (by decide) (rv_of (ci := 8) rfl rfl rfl) ?_
        refine J_ifp_eq (pc := 27) (tgt := 50) dX1_read_27 (by decide) (fun c27 => ?_) (fun c27 => absurd c27 u0)
        exact fin
theorem r_X1_read {g : Gp} {S : Sx} {n : Nat} {cc : Nat → Nat} (hx : CTX S n cc) {u : UT} (hu : UO n u) (h0 : u.1 = 0) (hf0 : u.2.2.1 = 0) {a : Nat} (hHL : HLa a) {f : Nat} {r : HS} (hr : hlp cc n f ((pbl cc n 0, 0, 0), 0, hd0) = some r) : RU g mX1_read 7 [.ref a, .ref 1] (ct S u) (HRd S a n r) := by
  refine RU_ofQ ⟨rfl, rfl⟩ (Nat.le_of_ble_eq_true rfl) (fun sz Q hQ => ?_)
  have h1 := HLa_1 hHL
  refine J_aload_n (pc := 0) dX1_read_0 rfl ?_
  refine J_iconst (pc := 1) (v := 0) dX1_read_1 (by decide) ?_
  refine J_puti (pc := 2) dX1_read_2 kc1 fl_X1_36 (by first | exact hou_i8 (by assumption) | rfl) ⟨rfl, rfl⟩ ?_
  refine J_aload_n (pc := 5) dX1_read_5 rfl ?_
  refine J_iconst (pc := 6) (v := 0) dX1_read_6 (by decide) ?_
  refine J_puti (pc := 7) dX1_read_7 kc1 fl_X1_40 (by first | exact hou_i9 (by assumption) | rfl) ⟨rfl, rfl⟩ ?_
  refine J_aload_n (pc := 10) dX1_read_10 rfl ?_
  refine J_iconst (pc := 11) (v := 0) dX1_read_11 (by decide) ?_
  refine J_puti (pc := 12) dX1_read_12 kc1 fl_X1_43 (by first | exact hou_i10 (by assumption) | rfl) ⟨rfl, rfl⟩ ?_
  refine J_iconst (pc := 15) (v := 0) dX1_read_15 (by decide) ?_
  refine J_istore_n (pc := 16) dX1_read_16 (by decide) rfl ?_
  rw [ct_F h1, ct_F h1, ct_F h1]
  have hfr : FRC (hcF a) (hcA a) S (sF (sF (sF S a 8 0) a 9 0) a 10 0) := FRC_F (FRC_F (FRC_F (FRC_r _ _ _) (hcF_t (k := 8) (by decide) (by decide))) (hcF_t (k := 9) (by decide) (by decide))) (hcF_t (k := 10) (by decide) (by decide))
  refine house_loop hx hHL f _ r _ u hr hu ⟨pbl_le cc (Nat.zero_le n), Nat.zero_le 3, Nat.zero_le n⟩ ⟨hf0, fun z => absurd rfl z, fun _ => by show pbl cc n u.1 = pbl cc n 0; rw [h0]⟩ hfr (fun _ => ⟨Nat.zero_le _, ?_, ?_⟩) hQ _ (fun _ => rfl)
  · refine ⟨?_, ?_, ?_, fun s hs => absurd hs (Nat.not_lt_zero s), fun s hs => absurd hs (Nat.not_lt_zero s), fun s hs => absurd hs (Nat.not_lt_zero s)⟩
    · rw [sf_o (by omega), sf_o (by omega), sF_s]; rfl
    · rw [sf_o (by omega), sF_s]; rfl
    · rw [sF_s]; rfl
  · exact ⟨Nat.zero_le _, Nat.zero_le _, Nat.zero_le _, fun i hi => absurd hi (Nat.not_lt_zero i), fun i v (hq : (none : Option Nat) = some v) => (nomatch hq), fun i hi => absurd hi (Nat.not_lt_zero i), fun i hi => absurd hi (Nat.not_lt_zero i)⟩
