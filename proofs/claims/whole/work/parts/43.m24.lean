/-! ===== reading: what is pure of it ===== -/
def TX (S : Sx) (n : Nat) (cc : Nat → Nat) : Prop := sf S 59 2 = nI n ∧ n ≤ 600 ∧ (∀ k, k < n → sa S 60 k = nI (cc k) ∧ cc k < 256) ∧ ∀ k, n ≤ k → cc k = 999
def bv (c : Nat) : Int32 := if c = 999 then -1 else nI c
theorem TX_le {S : Sx} {n : Nat} {cc : Nat → Nat} (h : TX S n cc) (k : Nat) : cc k = 999 ∨ cc k < 256 := by
  by_cases q : k < n
  · exact Or.inr (h.2.2.1 k q).2
  · exact Or.inl (h.2.2.2 k (by omega))
theorem bv_eq {c d : Nat} (hc : c = 999 ∨ c < 256) (hd : d < 256) : bv c = nI d ↔ c = d := by
  unfold bv
  by_cases h : c = 999
  · rw [if_pos h]
    exact ⟨fun q => absurd q.symm (nI_nm (by omega)), fun q => by omega⟩
  · rw [if_neg h]
    exact nI_eq (by omega) (by omega)
theorem bv_rg {c lo hi : Nat} (hc : c = 999 ∨ c < 256) (hh : hi < 256) : (nI lo ≤ bv c ∧ bv c ≤ nI hi) ↔ (lo ≤ c ∧ c ≤ hi) ∨ (2 ^ 31 ≤ lo ∧ nI lo ≤ bv c ∧ bv c ≤ nI hi) := by
  unfold bv
  by_cases hl : lo < 2 ^ 31
  · by_cases h : c = 999
    · rw [if_pos h]
      refine ⟨fun q => ?_, fun q => by omega⟩
      have q1 := Int32.le_iff_toInt_le.mp q.1
      rw [nI_toInt hl] at q1
      have : (-1 : Int32).toInt = -1 := rfl
      omega
    · rw [if_neg h, nI_leI hl (by omega), nI_leI (by omega) (by omega)]
      exact ⟨fun q => Or.inl q, fun q => by omega⟩
  · exact ⟨fun q => Or.inr ⟨by omega, q⟩, fun q => by rcases q with q | q; (omega); exact q.2⟩
def isD (c : Nat) : Bool := decide (48 ≤ c ∧ c ≤ 57)
def isS (c : Nat) : Bool := decide (97 ≤ c ∧ c ≤ 122)
theorem bv_D {c : Nat} (hc : c = 999 ∨ c < 256) : (48 ≤ bv c ∧ bv c ≤ 57) ↔ isD c = true := by
  unfold isD
  rw [decide_eq_true_iff]
  exact (bv_rg (lo := 48) (hi := 57) hc (by decide)).trans ⟨fun q => by omega, fun q => Or.inl q⟩
theorem bv_S {c : Nat} (hc : c = 999 ∨ c < 256) : (97 ≤ bv c ∧ bv c ≤ 122) ↔ isS c = true := by
  unfold isS
  rw [decide_eq_true_iff]
  exact (bv_rg (lo := 97) (hi := 122) hc (by decide)).trans ⟨fun q => by omega, fun q => Or.inl q⟩
def skp (P : Nat → Bool) : Nat → Nat → Nat
  | 0, a => a
  | f + 1, a => if P a = true then skp P f (a + 1) else a
theorem skp_t {P : Nat → Bool} {f a : Nat} (h : P a = true) : skp P (f + 1) a = skp P f (a + 1) := if_pos h
theorem skp_f {P : Nat → Bool} {f a : Nat} (h : ¬ P a = true) : skp P f a = a := by
  cases f with
  | zero => rfl
  | succ f => exact if_neg h
theorem skp_ge (P : Nat → Bool) : ∀ f a, a ≤ skp P f a
  | 0, a => Nat.le_refl a
  | f + 1, a => by
    by_cases h : P a = true
    · rw [skp_t h]; have := skp_ge P f (a + 1); omega
    · rw [skp_f h]; exact Nat.le_refl a
theorem skp_le (P : Nat → Bool) : ∀ f a, skp P f a ≤ a + f
  | 0, a => Nat.le_refl a
  | f + 1, a => by
    by_cases h : P a = true
    · rw [skp_t h]; have := skp_le P f (a + 1); omega
    · rw [skp_f h]; omega
theorem skp_in {P : Nat → Bool} : ∀ {f a k}, a ≤ k → k < skp P f a → P k = true
  | 0, a, k, h1, h2 => absurd h2 (by show ¬ k < a; omega)
  | f + 1, a, k, h1, h2 => by
    by_cases h : P a = true
    · rw [skp_t h] at h2
      by_cases e : k = a
      · rw [e]; exact h
      · exact skp_in (by omega) h2
    · rw [skp_f h] at h2; omega
theorem skp_end {P : Nat → Bool} {n : Nat} (hn : ¬ P n = true) : ∀ {f a}, a + f = n → ¬ P (skp P f a) = true
  | 0, a, h => by rw [show a + 0 = a from rfl] at h; rw [h]; exact hn
  | f + 1, a, h => by
    by_cases q : P a = true
    · rw [skp_t q]; exact skp_end hn (by omega)
    · rw [skp_f q]; exact q
abbrev PT : Type := Nat × Nat × Nat
def pbl (cc : Nat → Nat) (n a : Nat) : Nat := skp (fun k => cc k == 32) (n - a) a
def pwe (cc : Nat → Nat) (n a : Nat) : Nat := skp (fun k => isS (cc k)) (n - a) a
def pde (cc : Nat → Nat) (n a : Nat) : Nat := skp (fun k => isD (cc k)) (n - a) a
theorem pbl_le (cc : Nat → Nat) {n a : Nat} (h : a ≤ n) : pbl cc n a ≤ n := by have := skp_le (fun k => cc k == 32) (n - a) a; unfold pbl; omega
theorem pwe_le (cc : Nat → Nat) {n a : Nat} (h : a ≤ n) : pwe cc n a ≤ n := by have := skp_le (fun k => isS (cc k)) (n - a) a; unfold pwe; omega
theorem pde_le (cc : Nat → Nat) {n a : Nat} (h : a ≤ n) : pde cc n a ≤ n := by have := skp_le (fun k => isD (cc k)) (n - a) a; unfold pde; omega
theorem pbl_ge (cc : Nat → Nat) (n a : Nat) : a ≤ pbl cc n a := skp_ge _ _ _
theorem pwe_ge (cc : Nat → Nat) (n a : Nat) : a ≤ pwe cc n a := skp_ge _ _ _
theorem pde_ge (cc : Nat → Nat) (n a : Nat) : a ≤ pde cc n a := skp_ge _ _ _
theorem pbl_no {cc : Nat → Nat} {n a : Nat} (hn : cc n = 999) (h : a ≤ n) : ¬ cc (pbl cc n a) = 32 := by
  have := skp_end (P := fun k => cc k == 32) (n := n) (by rw [hn]; decide) (f := n - a) (a := a) (by omega)
  exact fun q => this (by show (cc (pbl cc n a) == 32) = true; rw [q]; rfl)
theorem pbl_id {cc : Nat → Nat} {n a : Nat} (h : ¬ cc a = 32) : pbl cc n a = a := skp_f (fun q => h (eq_of_beq q))
theorem pbl_pbl {cc : Nat → Nat} {n a : Nat} (hn : cc n = 999) (h : a ≤ n) : pbl cc n (pbl cc n a) = pbl cc n a := pbl_id (pbl_no hn h)
def ps (S : Sx) (t : PT) : Sx := (fun x y => if x = 59 then (if y = 4 then nI t.1 else if y = 5 then nI t.2.1 else if y = 6 then (if t.2.1 = 0 then -1 else nI t.2.2) else sf S x y) else sf S x y, sp S, sa S, sl S, sx S)
theorem ps_at (S : Sx) (t : PT) (a : Nat) : sF (ps S t) 59 4 (nI a) = ps S (a, t.2) := by
  have : up2 (sf (ps S t)) 59 4 (nI a) = sf (ps S (a, t.2)) := by
    funext x y
    show (if x = 59 then (if y = 4 then nI a else sf (ps S t) x y) else sf (ps S t) x y) = _
    by_cases hx : x = 59
    · subst hx
      by_cases hy : y = 4
      · subst hy; rfl
      · simp [ps, sf, hy]
    · simp [ps, sf, hx]
  show (up2 (sf (ps S t)) 59 4 (nI a), _, _, _, _) = _
  rw [this]
  rfl
theorem ps_wr (S : Sx) (t : PT) {k : Nat} (hk : k ≠ 0) (h : Nat) : sF (sF (ps S t) 59 5 (nI k)) 59 6 (nI h) = ps S (t.1, k, h) := by
  have : up2 (up2 (sf (ps S t)) 59 5 (nI k)) 59 6 (nI h) = sf (ps S (t.1, k, h)) := by
    funext x y
    show (if x = 59 then (if y = 6 then nI h else (if x = 59 then (if y = 5 then nI k else sf (ps S t) x y) else sf (ps S t) x y)) else (if x = 59 then (if y = 5 then nI k else sf (ps S t) x y) else sf (ps S t) x y)) = _
    by_cases hx : x = 59
    · subst hx
      by_cases hy : y = 6
      · subst hy; simp [ps, sf, hk]
      · by_cases hy : y = 5
        · subst hy; simp [ps, sf]
        · simp [ps, sf, *]
    · simp [ps, sf, hx]
  show (up2 (up2 (sf (ps S t)) 59 5 (nI k)) 59 6 (nI h), _, _, _, _) = _
  rw [this]
  rfl
theorem ps_ps (S : Sx) (t u : PT) : ps (ps S t) u = ps S u := by
  have : sf (ps (ps S t) u) = sf (ps S u) := by
    funext x y
    by_cases hx : x = 59
    · subst hx
      by_cases h4 : y = 4
      · subst h4; rfl
      · by_cases h5 : y = 5
        · subst h5; rfl
        · by_cases h6 : y = 6
          · subst h6; rfl
          · simp [ps, sf, h4, h5, h6]
    · simp [ps, sf, hx]
  show (sf (ps (ps S t) u), _, _, _, _) = (sf (ps S u), _, _, _, _)
  rw [this]
  rfl
def pwr (k h : Nat) (t : PT) : PT := if t.2.1 = 0 then (t.1, k, h) else t
theorem nI_z {f : Nat} (hf : f ≤ 3) : nI f = 0 ↔ f = 0 := by
  have := nI_eq (a := f) (b := 0) (by omega) (by omega)
  exact this
theorem r_X11_byteAt {g : Gp} {S : Sx} {k : Nat} {n : Nat} {cc : Nat → Nat} (hx : TX S n cc) (hk : k < 2 ^ 31) : RT g mX11_byteAt 0 [.ref 59, .int (nI k)] S (some (.int (bv (cc k)))) S := by
  refine RT_ofQ ⟨rfl, rfl⟩ (Nat.le_of_ble_eq_true rfl) (fun sz Q hQ => ?_)
  have hn6 := hx.2.1
  by_cases q : k < n
  · refine J_iload_n (pc := 0) dX11_byteAt_0 rfl ?_
    refine J_aload_n (pc := 1) dX11_byteAt_1 rfl ?_
    refine J_geti (pc := 2) dX11_byteAt_2 kc11 fl_X11_109 rfl ?_
    refine J_icmp_lt (pc := 5) (tgt := 12) dX11_byteAt_5 (by decide) (fun c5 => ?_) (fun c5 => absurd c5 (show ¬ ¬ nI k < sf S 59 2 by rw [hx.1]; exact fun z => z (nI_lt q (by omega))))
    refine J_aload_n (pc := 12) dX11_byteAt_12 rfl ?_
    refine J_getr (pc := 13) dX11_byteAt_13 kc11 fl_X11_13 rfl ?_
    refine J_iload_n (pc := 16) dX11_byteAt_16 rfl ?_
    refine J_il (pc := 17) dX11_byteAt_17 (by first | rfl | assumption) rfl ⟨by first | decide | omega, by decide⟩ ?_
    exact J_iret (pc := 18) rfl rfl rfl dX11_byteAt_18 (rq hQ (by obtain ⟨h1, h2⟩ := hx.2.2.1 k q; rw [h1]; unfold bv; rw [if_neg (by omega)]) rfl)
  · refine J_iload_n (pc := 0) dX11_byteAt_0 rfl ?_
    refine J_aload_n (pc := 1) dX11_byteAt_1 rfl ?_
    refine J_geti (pc := 2) dX11_byteAt_2 kc11 fl_X11_109 rfl ?_
    refine J_icmp_lt (pc := 5) (tgt := 12) dX11_byteAt_5 (by decide) (fun c5 => absurd c5 (show ¬ nI k < sf S 59 2 by rw [hx.1]; exact nI_nlt (by omega) hk)) (fun c5 => ?_)
    refine J_iconst (pc := 8) (v := -1) dX11_byteAt_8 (by decide) ?_
    refine J_goto (pc := 9) (tgt := 18) dX11_byteAt_9 (by decide) ?_
    exact J_iret (pc := 18) rfl rfl rfl dX11_byteAt_18 (rq hQ (by rw [hx.2.2.2 k (by omega)]; rfl) rfl)
theorem r_wr {g : Gp} {S : Sx} {t : PT} {k h : Nat} (hf : t.2.1 ≤ 3) (hk : k ≠ 0) : RT g mX11_wrong 0 [.ref 59, .int (nI k), .int (nI h)] (ps S t) none (ps S (pwr k h t)) := by
  have := r_X11_wrong (g := g) (S := ps S t) (w := nI k) (h := nI h)
  have e : (if sf (ps S t) 59 5 = 0 then sF (sF (ps S t) 59 5 (nI k)) 59 6 (nI h) else ps S t) = ps S (pwr k h t) := by
    unfold pwr
    rw [show sf (ps S t) 59 5 = nI t.2.1 from rfl]
    by_cases q : t.2.1 = 0
    · rw [if_pos q, if_pos ((nI_z hf).mpr q), ps_wr S t hk]
    · rw [if_neg q, if_neg (fun z => q ((nI_z hf).mp z))]
  rw [e] at this
  exact this
theorem r_X11_blanks {g : Gp} {S : Sx} {t : PT} {n : Nat} {cc : Nat → Nat} (hx : TX S n cc) (ht : t.1 ≤ n) : RT g mX11_blanks 1 [.ref 59] (ps S t) none (ps S (pbl cc n t.1, t.2)) := by
  refine RT_ofQ ⟨rfl, rfl⟩ (Nat.le_of_ble_eq_true rfl) (fun sz Q hQ => ?_)
  have hn6 := hx.2.1
  have loop : ∀ f a, a + f = n → Q (.inl none) (hs (ps S (skp (fun k => cc k == 32) f a, t.2))) sz → J g mX11_blanks 1 [] 0 [some (.ref 59)] [] (hs (ps S (a, t.2))) sz 0 0 Q := by
    intro f
    induction f with
    | zero =>
      intro a ha hq
      refine J_aload_n (pc := 0) dX11_blanks_0 rfl ?_
      refine J_aload_n (pc := 1) dX11_blanks_1 rfl ?_
      refine J_geti (pc := 2) dX11_blanks_2 kc11 fl_X11_112 rfl ?_
      refine J_cvr (pc := 5) (N := mX11_byteAt) dX11_blanks_5 ml_X11_115 cf_X11_byteAt cv_X11_byteAt (r_X11_byteAt (S := ps S (a, t.2)) (k := a) (n := n) (cc := cc) hx (by omega)) rfl rfl (Nat.le_of_ble_eq_true rfl) (by decide) (rv_of (ci := 11) rfl rfl rfl) ?_
      refine J_bipush (pc := 8) (v := 32) dX11_blanks_8 (by decide) ?_
      refine J_icmp_ne (pc := 10) (tgt := 26) dX11_blanks_10 (by decide) (fun c10 => ?_) (fun c10 => absurd c10 (by rw [show a = n by omega, hx.2.2.2 n (Nat.le_refl _)]; decide))
      exact J_ret (pc := 26) rfl rfl dX11_blanks_26 hq
    | succ f ih =>
      intro a ha hq
      by_cases q : cc a = 32
      · rw [skp_t (P := fun k => cc k == 32) (show (cc a == 32) = true by rw [q]; rfl)] at hq
        refine J_aload_n (pc := 0) dX11_blanks_0 rfl ?_
        refine J_aload_n (pc := 1) dX11_blanks_1 rfl ?_
        refine J_geti (pc := 2) dX11_blanks_2 kc11 fl_X11_112 rfl ?_
        refine J_cvr (pc := 5) (N := mX11_byteAt) dX11_blanks_5 ml_X11_115 cf_X11_byteAt cv_X11_byteAt (r_X11_byteAt (S := ps S (a, t.2)) (k := a) (n := n) (cc := cc) hx (by omega)) rfl rfl (Nat.le_of_ble_eq_true rfl) (by decide) (rv_of (ci := 11) rfl rfl rfl) ?_
        refine J_bipush (pc := 8) (v := 32) dX11_blanks_8 (by decide) ?_
        refine J_icmp_ne (pc := 10) (tgt := 26) dX11_blanks_10 (by decide) (fun c10 => absurd ((bv_eq (TX_le hx a) (by decide)).mpr q) c10) (fun c10 => ?_)
        refine J_aload_n (pc := 13) dX11_blanks_13 rfl ?_
        refine J_dup (pc := 14) dX11_blanks_14 rfl ?_
        refine J_geti (pc := 15) dX11_blanks_15 kc11 fl_X11_112 rfl ?_
        refine J_iconst (pc := 18) (v := 1) dX11_blanks_18 (by decide) ?_
        refine J_iadd (pc := 19) dX11_blanks_19 ?_
        refine J_t1 (nI_1 a) ?_
        refine J_puti (pc := 20) dX11_blanks_20 kc11 fl_X11_112 rfl ⟨rfl, rfl⟩ ?_
        refine J_cg2 (ps_at S (a, t.2) (a + 1)) ?_
        refine J_goto (pc := 23) (tgt := 0) dX11_blanks_23 (by decide) ?_
        exact ih (a + 1) (by omega) hq
      · rw [skp_f (P := fun k => cc k == 32) (show ¬ (cc a == 32) = true from fun z => q (eq_of_beq z))] at hq
        refine J_aload_n (pc := 0) dX11_blanks_0 rfl ?_
        refine J_aload_n (pc := 1) dX11_blanks_1 rfl ?_
        refine J_geti (pc := 2) dX11_blanks_2 kc11 fl_X11_112 rfl ?_
        refine J_cvr (pc := 5) (N := mX11_byteAt) dX11_blanks_5 ml_X11_115 cf_X11_byteAt cv_X11_byteAt (r_X11_byteAt (S := ps S (a, t.2)) (k := a) (n := n) (cc := cc) hx (by omega)) rfl rfl (Nat.le_of_ble_eq_true rfl) (by decide) (rv_of (ci := 11) rfl rfl rfl) ?_
        refine J_bipush (pc := 8) (v := 32) dX11_blanks_8 (by decide) ?_
        refine J_icmp_ne (pc := 10) (tgt := 26) dX11_blanks_10 (by decide) (fun c10 => ?_) (fun c10 => absurd c10 (fun z => q ((bv_eq (d := 32) (TX_le hx a) (by decide)).mp z)))
        exact J_ret (pc := 26) rfl rfl dX11_blanks_26 hq
  exact loop (n - t.1) t.1 (by omega) hQ
theorem r_X11_skipWord {g : Gp} {S : Sx} {t : PT} {n : Nat} {cc : Nat → Nat} (hx : TX S n cc) (ht : t.1 ≤ n) : RT g mX11_skipWord 1 [.ref 59] (ps S t) none (ps S (pwe cc n t.1, t.2)) := by
  refine RT_ofQ ⟨rfl, rfl⟩ (Nat.le_of_ble_eq_true rfl) (fun sz Q hQ => ?_)
  have hn6 := hx.2.1
  have loop : ∀ f a, a + f = n → Q (.inl none) (hs (ps S (skp (fun k => isS (cc k)) f a, t.2))) sz → J g mX11_skipWord 1 [] 0 [some (.ref 59)] [] (hs (ps S (a, t.2))) sz 0 0 Q := by
    intro f
    induction f with
    | zero =>
      intro a ha hq
      refine J_aload_n (pc := 0) dX11_skipWord_0 rfl ?_
      refine J_aload_n (pc := 1) dX11_skipWord_1 rfl ?_
      refine J_geti (pc := 2) dX11_skipWord_2 kc11 fl_X11_112 rfl ?_
      refine J_cvr (pc := 5) (N := mX11_byteAt) dX11_skipWord_5 ml_X11_115 cf_X11_byteAt cv_X11_byteAt (r_X11_byteAt (S := ps S (a, t.2)) (k := a) (n := n) (cc := cc) hx (by omega)) rfl rfl (Nat.le_of_ble_eq_true rfl) (by decide) (rv_of (ci := 11) rfl rfl rfl) ?_
      refine J_csr (pc := 8) (N := mX11_isSmall) dX11_skipWord_8 ml_X11_141 cf_X11_isSmall cs_X11_isSmall (r_X11_isSmall (S := ps S (a, t.2))) rfl rfl (Nat.le_of_ble_eq_true rfl) (by decide) ?_
      refine J_ifp_eq (pc := 11) (tgt := 27) dX11_skipWord_11 (by decide) (fun c11 => ?_) (fun c11 => absurd c11 (by rw [show a = n by omega, hx.2.2.2 n (Nat.le_refl _)]; decide))
      exact J_ret (pc := 27) rfl rfl dX11_skipWord_27 hq
    | succ f ih =>
      intro a ha hq
      by_cases q : isS (cc a) = true
      · rw [skp_t (P := fun k => isS (cc k)) q] at hq
        refine J_aload_n (pc := 0) dX11_skipWord_0 rfl ?_
        refine J_aload_n (pc := 1) dX11_skipWord_1 rfl ?_
        refine J_geti (pc := 2) dX11_skipWord_2 kc11 fl_X11_112 rfl ?_
        refine J_cvr (pc := 5) (N := mX11_byteAt) dX11_skipWord_5 ml_X11_115 cf_X11_byteAt cv_X11_byteAt (r_X11_byteAt (S := ps S (a, t.2)) (k := a) (n := n) (cc := cc) hx (by omega)) rfl rfl (Nat.le_of_ble_eq_true rfl) (by decide) (rv_of (ci := 11) rfl rfl rfl) ?_
        refine J_csr (pc := 8) (N := mX11_isSmall) dX11_skipWord_8 ml_X11_141 cf_X11_isSmall cs_X11_isSmall (r_X11_isSmall (S := ps S (a, t.2))) rfl rfl (Nat.le_of_ble_eq_true rfl) (by decide) ?_
        refine J_ifp_eq (pc := 11) (tgt := 27) dX11_skipWord_11 (by decide) (fun c11 => absurd ((bv_S (TX_le hx a)).mpr q) c11) (fun c11 => ?_)
        refine J_aload_n (pc := 14) dX11_skipWord_14 rfl ?_
        refine J_dup (pc := 15) dX11_skipWord_15 rfl ?_
        refine J_geti (pc := 16) dX11_skipWord_16 kc11 fl_X11_112 rfl ?_
        refine J_iconst (pc := 19) (v := 1) dX11_skipWord_19 (by decide) ?_
        refine J_iadd (pc := 20) dX11_skipWord_20 ?_
        refine J_t1 (nI_1 a) ?_
        refine J_puti (pc := 21) dX11_skipWord_21 kc11 fl_X11_112 rfl ⟨rfl, rfl⟩ ?_
        refine J_cg2 (ps_at S (a, t.2) (a + 1)) ?_
        refine J_goto (pc := 24) (tgt := 0) dX11_skipWord_24 (by decide) ?_
        exact ih (a + 1) (by omega) hq
      · rw [skp_f (P := fun k => isS (cc k)) q] at hq
        refine J_aload_n (pc := 0) dX11_skipWord_0 rfl ?_
        refine J_aload_n (pc := 1) dX11_skipWord_1 rfl ?_
        refine J_geti (pc := 2) dX11_skipWord_2 kc11 fl_X11_112 rfl ?_
        refine J_cvr (pc := 5) (N := mX11_byteAt) dX11_skipWord_5 ml_X11_115 cf_X11_byteAt cv_X11_byteAt (r_X11_byteAt (S := ps S (a, t.2)) (k := a) (n := n) (cc := cc) hx (by omega)) rfl rfl (Nat.le_of_ble_eq_true rfl) (by decide) (rv_of (ci := 11) rfl rfl rfl) ?_
        refine J_csr (pc := 8) (N := mX11_isSmall) dX11_skipWord_8 ml_X11_141 cf_X11_isSmall cs_X11_isSmall (r_X11_isSmall (S := ps S (a, t.2))) rfl rfl (Nat.le_of_ble_eq_true rfl) (by decide) ?_
        refine J_ifp_eq (pc := 11) (tgt := 27) dX11_skipWord_11 (by decide) (fun c11 => ?_) (fun c11 => absurd c11 (fun z => q ((bv_S (TX_le hx a)).mp z)))
        exact J_ret (pc := 27) rfl rfl dX11_skipWord_27 hq
  exact loop (n - t.1) t.1 (by omega) hQ
