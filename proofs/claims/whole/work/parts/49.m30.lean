/-! ===== laying rows; a law given ===== -/
def lyA (f : Nat → Nat → Int32) (a0 b0 w k i : Nat) : Nat → Nat → Int32 := fun b j => if b0 ≤ b ∧ j < w ∧ (b < b0 + k ∨ (b = b0 + k ∧ j < i)) then f (a0 + (b - b0)) j else f b j
def lyS (S : Sx) (a0 b0 w k i : Nat) : Sx := (sf S, sp S, lyA (sa S) a0 b0 w k i, sl S, sx S)
theorem ly_put {S : Sx} {a0 b0 w k i : Nat} (hi : i < w) {v : Int32} (hv : v = sa S (a0 + k) i) : sA (lyS S a0 b0 w k i) (b0 + k) i v = lyS S a0 b0 w k (i + 1) := by
  have : up2 (lyA (sa S) a0 b0 w k i) (b0 + k) i v = lyA (sa S) a0 b0 w k (i + 1) := by
    funext b j
    unfold up2 lyA
    by_cases hb : b = b0 + k
    · subst hb
      rw [if_pos rfl]
      by_cases hj : j = i
      · subst hj
        rw [if_pos rfl, if_pos (by omega), show b0 + k - b0 = k by omega, hv]
      · rw [if_neg hj]
        by_cases h2 : j < i
        · rw [if_pos (by omega), if_pos (by omega)]
        · rw [if_neg (by omega), if_neg (by omega)]
    · rw [if_neg hb]
      by_cases h2 : b0 ≤ b ∧ j < w ∧ b < b0 + k
      · rw [if_pos (by omega), if_pos (by omega)]
      · rw [if_neg (by omega), if_neg (by omega)]
  show (sf S, sp S, up2 (lyA (sa S) a0 b0 w k i) (b0 + k) i v, sl S, sx S) = _
  rw [this]
  rfl
theorem ly_row {S : Sx} {a0 b0 w k : Nat} : lyS S a0 b0 w k w = lyS S a0 b0 w (k + 1) 0 := by
  have : lyA (sa S) a0 b0 w k w = lyA (sa S) a0 b0 w (k + 1) 0 := by
    funext b j
    unfold lyA
    by_cases h : b0 ≤ b ∧ j < w ∧ (b < b0 + k ∨ (b = b0 + k ∧ j < w))
    · rw [if_pos h, if_pos (by omega)]
    · rw [if_neg h, if_neg (by omega)]
  show (sf S, sp S, lyA (sa S) a0 b0 w k w, sl S, sx S) = _
  rw [this]
  rfl
theorem ly_0 {S : Sx} {a0 b0 w : Nat} : lyS S a0 b0 w 0 0 = S := by
  have : lyA (sa S) a0 b0 w 0 0 = sa S := by
    funext b j
    unfold lyA
    rw [if_neg (by omega)]
  show (sf S, sp S, lyA (sa S) a0 b0 w 0 0, sl S, sx S) = S
  rw [this]
theorem ly_o {S : Sx} {a0 b0 w k i b : Nat} (h : b < b0 ∨ b0 + k < b) : sa (lyS S a0 b0 w k i) b = sa S b := by
  funext j
  show lyA (sa S) a0 b0 w k i b j = _
  unfold lyA
  rw [if_neg (by omega)]
theorem r_X11_lays {g : Gp} {S : Sx} {A a0 B b0 N w m : Nat} (hA : lay A = some (.inr (4, N, a0, 1))) (hB : lay B = some (.inr (4, N, b0, 1))) (ra : ∀ k, k < N → lay (a0 + k) = some (.inr (0, w, 0, 0))) (rb : ∀ k, k < N → lay (b0 + k) = some (.inr (0, w, 0, 0))) (hd : a0 + N ≤ b0 ∨ b0 + N ≤ a0) (hm : m ≤ N) (hN : N < 1000) (hw : w < 1000) : RT g mX11_lays 0 [.ref A, .ref B, .int (nI m)] S none (lyS S a0 b0 w m 0) := by
  refine RT_ofQ ⟨rfl, rfl⟩ (Nat.le_of_ble_eq_true rfl) (fun sz Q hQ => ?_)
  refine J_iconst (pc := 0) (v := 0) dX11_lays_0 (by decide) ?_
  refine J_istore_n (pc := 1) dX11_lays_1 (by decide) rfl ?_
  refine J_cg2 (S' := lyS S a0 b0 w 0 0) ly_0.symm ?_
  show J g mX11_lays 0 [] 2 [some (.ref A), some (.ref B), some (.int (nI m)), some (.int (ix 0)), none] [] (hs (lyS S a0 b0 w 0 0)) sz 0 0 Q
  refine dn_ind (n := m) (P := fun k => J g mX11_lays 0 [] 2 [some (.ref A), some (.ref B), some (.int (nI m)), some (.int (ix k)), none] [] (hs (lyS S a0 b0 w k 0)) sz 0 0 Q) ?_ (fun k hk ih => ?_) 0 (Nat.zero_le _)
  · refine J_iload_n (pc := 2) dX11_lays_2 rfl ?_
    refine J_iload_n (pc := 3) dX11_lays_3 rfl ?_
    refine J_icmp_ge (pc := 4) (tgt := 43) dX11_lays_4 (by decide) (fun c4 => ?_) (fun c4 => absurd (ix_ge rfl) c4)
    exact J_ret (pc := 43) rfl rfl dX11_lays_43 (rqv hQ rfl)
  · refine J_iload_n (pc := 2) dX11_lays_2 rfl ?_
    refine J_iload_n (pc := 3) dX11_lays_3 rfl ?_
    refine J_icmp_ge (pc := 4) (tgt := 43) dX11_lays_4 (by decide) (fun c4 => absurd c4 (ix_lt rfl hk (by omega))) (fun c4 => ?_)
    refine J_iconst (pc := 7) (v := 0) dX11_lays_7 (by decide) ?_
    refine J_istore (pc := 8) dX11_lays_8 (by decide) rfl ?_
    have ih0 := ih
    clear ih
    show J g mX11_lays 0 [] 10 [some (.ref A), some (.ref B), some (.int (nI m)), some (.int (ix k)), some (.int (ix 0))] [] (hs (lyS S a0 b0 w k 0)) sz 0 0 Q
    refine dn_ind (n := w) (P := fun i => J g mX11_lays 0 [] 10 [some (.ref A), some (.ref B), some (.int (nI m)), some (.int (ix k)), some (.int (ix i))] [] (hs (lyS S a0 b0 w k i)) sz 0 0 Q) ?_ (fun i hi ih => ?_) 0 (Nat.zero_le _)
    · refine J_iload (pc := 10) dX11_lays_10 rfl ?_
      refine J_aload_n (pc := 12) dX11_lays_12 rfl ?_
      refine J_iload_n (pc := 13) dX11_lays_13 rfl ?_
      refine J_ar1 (pc := 14) dX11_lays_14 hB (ix_nI k) ⟨by omega, by omega⟩ ?_
      refine J_al (pc := 15) dX11_lays_15 (rb k (by omega)) (by decide) rfl ?_
      refine J_icmp_ge (pc := 16) (tgt := 37) dX11_lays_16 (by decide) (fun c16 => ?_) (fun c16 => absurd (ix_ge rfl) c16)
      refine J_iinc (pc := 37) (v := 1) dX11_lays_37 rfl (by decide) rfl ?_
      refine J_goto (pc := 40) (tgt := 2) dX11_lays_40 (by decide) ?_
      refine J_cg2 ly_row ?_
      refine J_forget (fun j u hu => ?_) ih0
      rcases j with _ | _ | _ | _ | _ | j <;> first | exact hu | (simp at hu)
    · refine J_iload (pc := 10) dX11_lays_10 rfl ?_
      refine J_aload_n (pc := 12) dX11_lays_12 rfl ?_
      refine J_iload_n (pc := 13) dX11_lays_13 rfl ?_
      refine J_ar1 (pc := 14) dX11_lays_14 hB (ix_nI k) ⟨by omega, by omega⟩ ?_
      refine J_al (pc := 15) dX11_lays_15 (rb k (by omega)) (by decide) rfl ?_
      refine J_icmp_ge (pc := 16) (tgt := 37) dX11_lays_16 (by decide) (fun c16 => absurd c16 (ix_lt rfl hi (by omega))) (fun c16 => ?_)
      refine J_aload_n (pc := 19) dX11_lays_19 rfl ?_
      refine J_iload_n (pc := 20) dX11_lays_20 rfl ?_
      refine J_ar1 (pc := 21) dX11_lays_21 hB (ix_nI k) ⟨by omega, by omega⟩ ?_
      refine J_iload (pc := 22) dX11_lays_22 rfl ?_
      refine J_aload_n (pc := 24) dX11_lays_24 rfl ?_
      refine J_iload_n (pc := 25) dX11_lays_25 rfl ?_
      refine J_ar1 (pc := 26) dX11_lays_26 hA (ix_nI k) ⟨by omega, by omega⟩ ?_
      refine J_iload (pc := 27) dX11_lays_27 rfl ?_
      refine J_il (pc := 29) dX11_lays_29 (ra k (by omega)) (ix_nI i) ⟨by omega, by omega⟩ ?_
      refine J_t1 (y := sa S (a0 + k) i) (by rw [ly_o (by omega)]) ?_
      refine J_is (pc := 30) dX11_lays_30 (rb k (by omega)) (ix_nI i) ⟨by omega, by omega⟩ ?_
      refine J_cg2 (ly_put hi rfl) ?_
      refine J_iinc (pc := 31) (v := 1) dX11_lays_31 rfl (by decide) rfl ?_
      refine J_goto (pc := 34) (tgt := 10) dX11_lays_34 (by decide) ?_
      exact ih
/-- the text that lies fed, its first n bytes -/
def FD (S : Sx) (n : Nat) (cc : Nat → Nat) : Prop := n ≤ 600 ∧ (∀ k, k < n → sa S 60 k = nI (cc k) ∧ cc k < 256) ∧ ∀ k, n ≤ k → cc k = 999
theorem FD_TX {S : Sx} {n : Nat} {cc : Nat → Nat} (h : FD S n cc) : TX (stS (S0 S) n) n cc := ⟨rfl, h.1, h.2.1, h.2.2⟩
theorem r_X11_law_er {g : Gp} {S : Sx} {x : Int32} {tp : Nat} (ht : sf S 59 1 = nI tp) (hv : ¬ ((0 ≤ x ∧ x ≤ nI tp) ∧ x ≤ 150)) : RT g mX11_law 2 [.ref 59, .int x] S (some (.int 0)) (er S 1 1) := by
  refine RT_ofQ ⟨rfl, rfl⟩ (Nat.le_of_ble_eq_true rfl) (fun sz Q hQ => ?_)
  refine J_aload_n (pc := 0) dX11_law_0 rfl ?_
  refine J_iconst (pc := 1) (v := 0) dX11_law_1 (by decide) ?_
  refine J_puti (pc := 2) dX11_law_2 kc11 fl_X11_103 rfl ⟨rfl, rfl⟩ ?_
  refine J_aload_n (pc := 5) dX11_law_5 rfl ?_
  refine J_iload_n (pc := 6) dX11_law_6 rfl ?_
  refine J_iconst (pc := 7) (v := 0) dX11_law_7 (by decide) ?_
  refine J_aload_n (pc := 8) dX11_law_8 rfl ?_
  refine J_geti (pc := 9) dX11_law_9 kc11 fl_X11_106 rfl ?_
  refine J_t1 ht ?_
  refine J_csr (pc := 12) (N := mX11_in) dX11_law_12 ml_X11_137 cf_X11_in cs_X11_in r_X11_in rfl rfl (Nat.le_of_ble_eq_true rfl) (by decide) ?_
  refine J_ifp_eq (pc := 15) (tgt := 25) dX11_law_15 (by decide) (fun c15 => ?_) (fun c15 => ?_)
  · refine J_iconst (pc := 25) (v := 1) dX11_law_25 (by decide) ?_
    refine J_goto (pc := 26) (tgt := 30) dX11_law_26 (by decide) ?_
    refine J_iconst (pc := 30) (v := 1) dX11_law_30 (by decide) ?_
    refine J_iconst (pc := 31) (v := 1) dX11_law_31 (by decide) ?_
    refine J_cvr (pc := 32) (N := mX11_bad) dX11_law_32 ml_X11_183 cf_X11_bad cv_X11_bad (r_X11_bad_t (k := 1) rfl (by decide) (by decide) rfl) rfl rfl (Nat.le_of_ble_eq_true rfl) (by decide) (rv_of (ci := 11) rfl rfl rfl) ?_
    refine J_if_eq (pc := 35) (tgt := 40) dX11_law_35 (by decide) (fun c35 => absurd c35 (by decide)) (fun c35 => ?_)
    refine J_iconst (pc := 38) (v := 0) dX11_law_38 (by decide) ?_
    exact J_iret (pc := 39) rfl rfl rfl dX11_law_39 (rq hQ (by first | rfl | simp [bI, *] | simp_all [bI]) rfl)
  · refine J_iload_n (pc := 18) dX11_law_18 rfl ?_
    refine J_sipush (pc := 19) (v := 150) dX11_law_19 (by decide) ?_
    refine J_icmp_le (pc := 22) (tgt := 29) dX11_law_22 (by decide) (fun c22 => absurd ⟨c15, c22⟩ hv) (fun c22 => ?_)
    refine J_iconst (pc := 25) (v := 1) dX11_law_25 (by decide) ?_
    refine J_goto (pc := 26) (tgt := 30) dX11_law_26 (by decide) ?_
    refine J_iconst (pc := 30) (v := 1) dX11_law_30 (by decide) ?_
    refine J_iconst (pc := 31) (v := 1) dX11_law_31 (by decide) ?_
    refine J_cvr (pc := 32) (N := mX11_bad) dX11_law_32 ml_X11_183 cf_X11_bad cv_X11_bad (r_X11_bad_t (k := 1) rfl (by decide) (by decide) rfl) rfl rfl (Nat.le_of_ble_eq_true rfl) (by decide) (rv_of (ci := 11) rfl rfl rfl) ?_
    refine J_if_eq (pc := 35) (tgt := 40) dX11_law_35 (by decide) (fun c35 => absurd c35 (by decide)) (fun c35 => ?_)
    refine J_iconst (pc := 38) (v := 0) dX11_law_38 (by decide) ?_
    exact J_iret (pc := 39) rfl rfl rfl dX11_law_39 (rq hQ (by first | rfl | simp [bI, *] | simp_all [bI]) rfl)
/-- what a law's text comes to: fault and place, or its items -/
def lwR (cc : Nat → Nat) (n : Nat) (r : LgS) : PT := if r.1.2.1 = 0 ∧ pbl cc n r.1.1 < n then (pbl cc n r.1.1, 1, pbl cc n r.1.1) else (pbl cc n r.1.1, r.1.2)
/-- the state behind a law's text that can't stand -/
def lwB (S : Sx) (n : Nat) (cc : Nat → Nat) (r : LgS) : Sx := ps (sF (rlS (sF (stS (S0 S) n) 59 22 0) r.2) 59 3 (nI (lwR cc n r).2.2)) (lwR cc n r)
def lwG (S : Sx) (n : Nat) (cc : Nat → Nat) (r : LgS) : Sx := lyS (sF (ps (sF (rlS (sF (stS (S0 S) n) 59 22 0) r.2) 59 3 (-1)) (lwR cc n r)) 59 21 (nI r.2.length)) 270 109 2 r.2.length 0
theorem rl_nil (S : Sx) : rlS (sF S 59 22 0) [] = sF S 59 22 0 := by
  have e : up2 (up2 (sf S) 59 22 0) 59 22 (nI 0) = up2 (sf S) 59 22 0 := up2_up2 _ _ _ _ _
  have e2 : (fun b i => if 270 ≤ b ∧ b < 270 + ([] : List (Nat × Nat)).length ∧ i < 2 then (if i = 0 then nI (([] : List (Nat × Nat)).getD (b - 270) (0, 0)).1 else nI (([] : List (Nat × Nat)).getD (b - 270) (0, 0)).2) else sa S b i) = sa S := by
    funext b i
    rw [if_neg (by show ¬ (270 ≤ b ∧ b < 270 + 0 ∧ i < 2); omega)]
  show (up2 (up2 (sf S) 59 22 0) 59 22 (nI 0), sp S, (fun b i => if 270 ≤ b ∧ b < 270 + ([] : List (Nat × Nat)).length ∧ i < 2 then (if i = 0 then nI (([] : List (Nat × Nat)).getD (b - 270) (0, 0)).1 else nI (([] : List (Nat × Nat)).getD (b - 270) (0, 0)).2) else sa S b i), sl S, sx S) = _
  rw [e, e2]
  rfl
theorem r_X11_law_bad {g : Gp} {S : Sx} {n tp f : Nat} {cc : Nat → Nat} {r : LgS} (ht : sf S 59 1 = nI tp) (h6 : tp ≤ 600) (hnt : n ≤ tp) (hn1 : n ≤ 150) (hF : FD S n cc) (hr : lp cc n f 0 0 ((pbl cc n 0, 0, 0), []) = some r) (hb : (lwR cc n r).2.1 ≠ 0) : RT g mX11_law 32 [.ref 59, .int (nI n)] S (some (.int (nI (lwR cc n r).2.1 - 10))) (lwB S n cc r) := by
  refine RT_ofQ ⟨rfl, rfl⟩ (Nat.le_of_ble_eq_true rfl) (fun sz Q hQ => ?_)
  have hx := FD_TX hF
  have hx2 : TX (sF (stS (S0 S) n) 59 22 0) n cc := hx
  have p0 : PO n ((pbl cc n 0, 0, 0) : PT) := ⟨pbl_le cc (Nat.zero_le _), by show 0 ≤ 3; omega, Nat.zero_le _⟩
  have l0 : LI n (((pbl cc n 0, 0, 0), []) : LgS) := ⟨p0, fun _ => Nat.zero_le _⟩
  have tr := LT_lp hx2 f 0 0 _ r p0 hr
  have lr := LT_LI tr l0
  have hbl := pbl_le cc tr.1.1
  refine J_aload_n (pc := 0) dX11_law_0 rfl ?_
  refine J_iconst (pc := 1) (v := 0) dX11_law_1 (by decide) ?_
  refine J_puti (pc := 2) dX11_law_2 kc11 fl_X11_103 rfl ⟨rfl, rfl⟩ ?_
  refine J_aload_n (pc := 5) dX11_law_5 rfl ?_
  refine J_iload_n (pc := 6) dX11_law_6 rfl ?_
  refine J_iconst (pc := 7) (v := 0) dX11_law_7 (by decide) ?_
  refine J_aload_n (pc := 8) dX11_law_8 rfl ?_
  refine J_geti (pc := 9) dX11_law_9 kc11 fl_X11_106 rfl ?_
  refine J_t1 ht ?_
  refine J_csr (pc := 12) (N := mX11_in) dX11_law_12 ml_X11_137 cf_X11_in cs_X11_in r_X11_in rfl rfl (Nat.le_of_ble_eq_true rfl) (by decide) ?_
  refine J_ifp_eq (pc := 15) (tgt := 25) dX11_law_15 (by decide) (fun c15 => absurd (inw2 (a := 0) (b := tp) rfl rfl (Nat.zero_le _) hnt (by omega)) c15) (fun c15 => ?_)
  refine J_iload_n (pc := 18) dX11_law_18 rfl ?_
  refine J_sipush (pc := 19) (v := 150) dX11_law_19 (by decide) ?_
  refine J_icmp_le (pc := 22) (tgt := 29) dX11_law_22 (by decide) (fun c22 => ?_) (fun c22 => absurd ((nI_leI (b := 150) (by omega) (by decide)).mpr hn1) c22)
  refine J_iconst (pc := 29) (v := 0) dX11_law_29 (by decide) ?_
  refine J_iconst (pc := 30) (v := 1) dX11_law_30 (by decide) ?_
  refine J_iconst (pc := 31) (v := 1) dX11_law_31 (by decide) ?_
  refine J_cvr (pc := 32) (N := mX11_bad) dX11_law_32 ml_X11_183 cf_X11_bad cv_X11_bad (r_X11_bad_f rfl) rfl rfl (Nat.le_of_ble_eq_true rfl) (by decide) (rv_of (ci := 11) rfl rfl rfl) ?_
  refine J_if_eq (pc := 35) (tgt := 40) dX11_law_35 (by decide) (fun c35 => ?_) (fun c35 => absurd rfl c35)
  refine J_aload_n (pc := 40) dX11_law_40 rfl ?_
  refine J_iload_n (pc := 41) dX11_law_41 rfl ?_
  refine J_cvv (pc := 42) (N := mX11_starts) dX11_law_42 ml_X11_187 cf_X11_starts cv_X11_starts (r_X11_starts (S := S0 S) hx) rfl rfl (Nat.le_of_ble_eq_true rfl) (by decide) (rv_of (ci := 11) rfl rfl rfl) ?_
  refine J_aload_n (pc := 45) dX11_law_45 rfl ?_
  refine J_iconst (pc := 46) (v := 0) dX11_law_46 (by decide) ?_
  refine J_puti (pc := 47) dX11_law_47 kc11 fl_X11_215 rfl ⟨rfl, rfl⟩ ?_
  refine J_cg2 (S' := lS (sF (stS (S0 S) n) 59 22 0) ((pbl cc n 0, 0, 0), [])) ((ps_sF _ _ (by decide) (by decide) (by decide)).trans (congrArg (fun z => ps z (pbl cc n 0, 0, 0)) (rl_nil _).symm)) ?_
  refine J_aload_n (pc := 50) dX11_law_50 rfl ?_
  refine J_cvv (pc := 51) (N := mX11_sum) dX11_law_51 ml_X11_239 cf_X11_sum cv_X11_sum ((r_lp hn1 f).1 (sF (stS (S0 S) n) 59 22 0) 0 ((pbl cc n 0, 0, 0), []) r hx2 rfl (by decide) l0 hr) rfl rfl (Nat.le_of_ble_eq_true rfl) (by decide) (rv_of (ci := 11) rfl rfl rfl) ?_
  refine J_aload_n (pc := 54) dX11_law_54 rfl ?_
  refine J_cvv (pc := 55) (N := mX11_blanks) dX11_law_55 ml_X11_125 cf_X11_blanks cv_X11_blanks (r_X11_blanks (S := rlS (sF (stS (S0 S) n) 59 22 0) r.2) (t := r.1) hx2 tr.1.1) rfl rfl (Nat.le_of_ble_eq_true rfl) (by decide) (rv_of (ci := 11) rfl rfl rfl) ?_
  have h3 : (lwR cc n r).2.1 ≤ 3 := by unfold lwR; split; (show 1 ≤ 3; omega); exact tr.1.2.1
  by_cases q : r.1.2.1 = 0
  · by_cases qa : pbl cc n r.1.1 < n
    · skip
      refine J_aload_n (pc := 58) dX11_law_58 rfl ?_
      refine J_geti (pc := 59) dX11_law_59 kc11 fl_X11_119 rfl ?_
      refine J_if_ne (pc := 62) (tgt := 85) dX11_law_62 (by decide) (fun c62 => absurd (show nI r.1.2.1 = 0 by rw [q]; rfl) c62) (fun c62 => ?_)
      refine J_aload_n (pc := 65) dX11_law_65 rfl ?_
      refine J_geti (pc := 66) dX11_law_66 kc11 fl_X11_112 rfl ?_
      refine J_aload_n (pc := 69) dX11_law_69 rfl ?_
      refine J_geti (pc := 70) dX11_law_70 kc11 fl_X11_109 rfl ?_
      refine J_icmp_ge (pc := 73) (tgt := 85) dX11_law_73 (by decide) (fun c73 => absurd c73 (show ¬ nI n ≤ nI (pbl cc n r.1.1) from nI_ge qa (by omega))) (fun c73 => ?_)
      refine J_aload_n (pc := 76) dX11_law_76 rfl ?_
      refine J_iconst (pc := 77) (v := 1) dX11_law_77 (by decide) ?_
      refine J_aload_n (pc := 78) dX11_law_78 rfl ?_
      refine J_geti (pc := 79) dX11_law_79 kc11 fl_X11_112 rfl ?_
      refine J_cvv (pc := 82) (N := mX11_wrong) dX11_law_82 ml_X11_132 cf_X11_wrong cv_X11_wrong (r_wr (S := (rlS (sF (stS (S0 S) n) 59 22 0) r.2)) (t := (pbl cc n r.1.1, r.1.2)) (k := 1) (h := pbl cc n r.1.1) tr.1.2.1 (by decide)) rfl rfl (Nat.le_of_ble_eq_true rfl) (by decide) (rv_of (ci := 11) rfl rfl rfl) ?_
      refine J_cg2 (S' := ps (rlS (sF (stS (S0 S) n) 59 22 0) r.2) (pbl cc n r.1.1, 1, pbl cc n r.1.1)) (ps_same (if_pos q)) ?_
      refine J_cg2 (S' := ps (rlS (sF (stS (S0 S) n) 59 22 0) r.2) (lwR cc n r)) (ps_same (by unfold lwR; rw [if_pos ⟨q, qa⟩])) ?_
      refine J_aload_n (pc := 85) dX11_law_85 rfl ?_
      refine J_geti (pc := 86) dX11_law_86 kc11 fl_X11_119 rfl ?_
      refine J_if_eq (pc := 89) (tgt := 97) dX11_law_89 (by decide) (fun c89 => absurd c89 (fun z => hb ((nI_z h3).mp z))) (fun c89 => ?_)
      refine J_aload_n (pc := 92) dX11_law_92 rfl ?_
      refine J_cvr (pc := 93) (N := mX11_ends) dX11_law_93 ml_X11_193 cf_X11_ends cv_X11_ends (r_X11_ends (S := (rlS (sF (stS (S0 S) n) 59 22 0) r.2)) (a := (lwR cc n r).1) (k := (lwR cc n r).2.1) (p := (lwR cc n r).2.2) hb) rfl rfl (Nat.le_of_ble_eq_true rfl) (by decide) (rv_of (ci := 11) rfl rfl rfl) ?_
      exact J_iret (pc := 96) rfl rfl rfl dX11_law_96 (rq hQ rfl rfl)
    · skip
      refine J_aload_n (pc := 58) dX11_law_58 rfl ?_
      refine J_geti (pc := 59) dX11_law_59 kc11 fl_X11_119 rfl ?_
      refine J_if_ne (pc := 62) (tgt := 85) dX11_law_62 (by decide) (fun c62 => absurd (show nI r.1.2.1 = 0 by rw [q]; rfl) c62) (fun c62 => ?_)
      refine J_aload_n (pc := 65) dX11_law_65 rfl ?_
      refine J_geti (pc := 66) dX11_law_66 kc11 fl_X11_112 rfl ?_
      refine J_aload_n (pc := 69) dX11_law_69 rfl ?_
      refine J_geti (pc := 70) dX11_law_70 kc11 fl_X11_109 rfl ?_
      refine J_icmp_ge (pc := 73) (tgt := 85) dX11_law_73 (by decide) (fun c73 => ?_) (fun c73 => absurd (show nI n ≤ nI (pbl cc n r.1.1) from nI_le (by omega) (by omega)) c73)
      refine J_cg2 (S' := ps (rlS (sF (stS (S0 S) n) 59 22 0) r.2) (lwR cc n r)) (ps_same (by unfold lwR; rw [if_neg (fun z => qa z.2)])) ?_
      refine J_aload_n (pc := 85) dX11_law_85 rfl ?_
      refine J_geti (pc := 86) dX11_law_86 kc11 fl_X11_119 rfl ?_
      refine J_if_eq (pc := 89) (tgt := 97) dX11_law_89 (by decide) (fun c89 => absurd c89 (fun z => hb ((nI_z h3).mp z))) (fun c89 => ?_)
      refine J_aload_n (pc := 92) dX11_law_92 rfl ?_
      refine J_cvr (pc := 93) (N := mX11_ends) dX11_law_93 ml_X11_193 cf_X11_ends cv_X11_ends (r_X11_ends (S := (rlS (sF (stS (S0 S) n) 59 22 0) r.2)) (a := (lwR cc n r).1) (k := (lwR cc n r).2.1) (p := (lwR cc n r).2.2) hb) rfl rfl (Nat.le_of_ble_eq_true rfl) (by decide) (rv_of (ci := 11) rfl rfl rfl) ?_
      exact J_iret (pc := 96) rfl rfl rfl dX11_law_96 (rq hQ rfl rfl)
  · skip
    refine J_aload_n (pc := 58) dX11_law_58 rfl ?_
    refine J_geti (pc := 59) dX11_law_59 kc11 fl_X11_119 rfl ?_
    refine J_if_ne (pc := 62) (tgt := 85) dX11_law_62 (by decide) (fun c62 => ?_) (fun c62 => absurd c62 (fun z => q ((nI_z tr.1.2.1).mp z)))
    refine J_cg2 (S' := ps (rlS (sF (stS (S0 S) n) 59 22 0) r.2) (lwR cc n r)) (ps_same (by unfold lwR; rw [if_neg (fun z => q z.1)])) ?_
    refine J_aload_n (pc := 85) dX11_law_85 rfl ?_
    refine J_geti (pc := 86) dX11_law_86 kc11 fl_X11_119 rfl ?_
    refine J_if_eq (pc := 89) (tgt := 97) dX11_law_89 (by decide) (fun c89 => absurd c89 (fun z => hb ((nI_z h3).mp z))) (fun c89 => ?_)
    refine J_aload_n (pc := 92) dX11_law_92 rfl ?_
    refine J_cvr (pc := 93) (N := mX11_ends) dX11_law_93 ml_X11_193 cf_X11_ends cv_X11_ends (r_X11_ends (S := (rlS (sF (stS (S0 S) n) 59 22 0) r.2)) (a := (lwR cc n r).1) (k := (lwR cc n r).2.1) (p := (lwR cc n r).2.2) hb) rfl rfl (Nat.le_of_ble_eq_true rfl) (by decide) (rv_of (ci := 11) rfl rfl rfl) ?_
    exact J_iret (pc := 96) rfl rfl rfl dX11_law_96 (rq hQ rfl rfl)
theorem r_X11_law {g : Gp} {S : Sx} {n tp f : Nat} {cc : Nat → Nat} {r : LgS} (ht : sf S 59 1 = nI tp) (h6 : tp ≤ 600) (hnt : n ≤ tp) (hn1 : n ≤ 150) (hF : FD S n cc) (hr : lp cc n f 0 0 ((pbl cc n 0, 0, 0), []) = some r) (hb : (lwR cc n r).2.1 = 0) : RT g mX11_law 32 [.ref 59, .int (nI n)] S (some (.int 1)) (lwG S n cc r) := by
  refine RT_ofQ ⟨rfl, rfl⟩ (Nat.le_of_ble_eq_true rfl) (fun sz Q hQ => ?_)
  have hx := FD_TX hF
  have hx2 : TX (sF (stS (S0 S) n) 59 22 0) n cc := hx
  have p0 : PO n ((pbl cc n 0, 0, 0) : PT) := ⟨pbl_le cc (Nat.zero_le _), by show 0 ≤ 3; omega, Nat.zero_le _⟩
  have l0 : LI n (((pbl cc n 0, 0, 0), []) : LgS) := ⟨p0, fun _ => Nat.zero_le _⟩
  have tr := LT_lp hx2 f 0 0 _ r p0 hr
  have lr := LT_LI tr l0
  have hbl := pbl_le cc tr.1.1
  have hr0 : r.1.2.1 = 0 := by unfold lwR at hb; split at hb; (exact absurd hb (by show ¬ 1 = 0; omega)); exact hb
  have hl16 : r.2.length ≤ 160 := by have := lr.2 hr0; have := tr.1.1; omega
  refine J_aload_n (pc := 0) dX11_law_0 rfl ?_
  refine J_iconst (pc := 1) (v := 0) dX11_law_1 (by decide) ?_
  refine J_puti (pc := 2) dX11_law_2 kc11 fl_X11_103 rfl ⟨rfl, rfl⟩ ?_
  refine J_aload_n (pc := 5) dX11_law_5 rfl ?_
  refine J_iload_n (pc := 6) dX11_law_6 rfl ?_
  refine J_iconst (pc := 7) (v := 0) dX11_law_7 (by decide) ?_
  refine J_aload_n (pc := 8) dX11_law_8 rfl ?_
  refine J_geti (pc := 9) dX11_law_9 kc11 fl_X11_106 rfl ?_
  refine J_t1 ht ?_
  refine J_csr (pc := 12) (N := mX11_in) dX11_law_12 ml_X11_137 cf_X11_in cs_X11_in r_X11_in rfl rfl (Nat.le_of_ble_eq_true rfl) (by decide) ?_
  refine J_ifp_eq (pc := 15) (tgt := 25) dX11_law_15 (by decide) (fun c15 => absurd (inw2 (a := 0) (b := tp) rfl rfl (Nat.zero_le _) hnt (by omega)) c15) (fun c15 => ?_)
  refine J_iload_n (pc := 18) dX11_law_18 rfl ?_
  refine J_sipush (pc := 19) (v := 150) dX11_law_19 (by decide) ?_
  refine J_icmp_le (pc := 22) (tgt := 29) dX11_law_22 (by decide) (fun c22 => ?_) (fun c22 => absurd ((nI_leI (b := 150) (by omega) (by decide)).mpr hn1) c22)
  refine J_iconst (pc := 29) (v := 0) dX11_law_29 (by decide) ?_
  refine J_iconst (pc := 30) (v := 1) dX11_law_30 (by decide) ?_
  refine J_iconst (pc := 31) (v := 1) dX11_law_31 (by decide) ?_
  refine J_cvr (pc := 32) (N := mX11_bad) dX11_law_32 ml_X11_183 cf_X11_bad cv_X11_bad (r_X11_bad_f rfl) rfl rfl (Nat.le_of_ble_eq_true rfl) (by decide) (rv_of (ci := 11) rfl rfl rfl) ?_
  refine J_if_eq (pc := 35) (tgt := 40) dX11_law_35 (by decide) (fun c35 => ?_) (fun c35 => absurd rfl c35)
  refine J_aload_n (pc := 40) dX11_law_40 rfl ?_
  refine J_iload_n (pc := 41) dX11_law_41 rfl ?_
  refine J_cvv (pc := 42) (N := mX11_starts) dX11_law_42 ml_X11_187 cf_X11_starts cv_X11_starts (r_X11_starts (S := S0 S) hx) rfl rfl (Nat.le_of_ble_eq_true rfl) (by decide) (rv_of (ci := 11) rfl rfl rfl) ?_
  refine J_aload_n (pc := 45) dX11_law_45 rfl ?_
  refine J_iconst (pc := 46) (v := 0) dX11_law_46 (by decide) ?_
  refine J_puti (pc := 47) dX11_law_47 kc11 fl_X11_215 rfl ⟨rfl, rfl⟩ ?_
  refine J_cg2 (S' := lS (sF (stS (S0 S) n) 59 22 0) ((pbl cc n 0, 0, 0), [])) ((ps_sF _ _ (by decide) (by decide) (by decide)).trans (congrArg (fun z => ps z (pbl cc n 0, 0, 0)) (rl_nil _).symm)) ?_
  refine J_aload_n (pc := 50) dX11_law_50 rfl ?_
  refine J_cvv (pc := 51) (N := mX11_sum) dX11_law_51 ml_X11_239 cf_X11_sum cv_X11_sum ((r_lp hn1 f).1 (sF (stS (S0 S) n) 59 22 0) 0 ((pbl cc n 0, 0, 0), []) r hx2 rfl (by decide) l0 hr) rfl rfl (Nat.le_of_ble_eq_true rfl) (by decide) (rv_of (ci := 11) rfl rfl rfl) ?_
  refine J_aload_n (pc := 54) dX11_law_54 rfl ?_
  refine J_cvv (pc := 55) (N := mX11_blanks) dX11_law_55 ml_X11_125 cf_X11_blanks cv_X11_blanks (r_X11_blanks (S := rlS (sF (stS (S0 S) n) 59 22 0) r.2) (t := r.1) hx2 tr.1.1) rfl rfl (Nat.le_of_ble_eq_true rfl) (by decide) (rv_of (ci := 11) rfl rfl rfl) ?_
  have h3 : (lwR cc n r).2.1 ≤ 3 := by unfold lwR; split; (show 1 ≤ 3; omega); exact tr.1.2.1
  by_cases q : r.1.2.1 = 0
  · by_cases qa : pbl cc n r.1.1 < n
    · skip
      refine J_aload_n (pc := 58) dX11_law_58 rfl ?_
      refine J_geti (pc := 59) dX11_law_59 kc11 fl_X11_119 rfl ?_
      refine J_if_ne (pc := 62) (tgt := 85) dX11_law_62 (by decide) (fun c62 => absurd (show nI r.1.2.1 = 0 by rw [q]; rfl) c62) (fun c62 => ?_)
      refine J_aload_n (pc := 65) dX11_law_65 rfl ?_
      refine J_geti (pc := 66) dX11_law_66 kc11 fl_X11_112 rfl ?_
      refine J_aload_n (pc := 69) dX11_law_69 rfl ?_
      refine J_geti (pc := 70) dX11_law_70 kc11 fl_X11_109 rfl ?_
      refine J_icmp_ge (pc := 73) (tgt := 85) dX11_law_73 (by decide) (fun c73 => absurd c73 (show ¬ nI n ≤ nI (pbl cc n r.1.1) from nI_ge qa (by omega))) (fun c73 => ?_)
      refine J_aload_n (pc := 76) dX11_law_76 rfl ?_
      refine J_iconst (pc := 77) (v := 1) dX11_law_77 (by decide) ?_
      refine J_aload_n (pc := 78) dX11_law_78 rfl ?_
      refine J_geti (pc := 79) dX11_law_79 kc11 fl_X11_112 rfl ?_
      refine J_cvv (pc := 82) (N := mX11_wrong) dX11_law_82 ml_X11_132 cf_X11_wrong cv_X11_wrong (r_wr (S := (rlS (sF (stS (S0 S) n) 59 22 0) r.2)) (t := (pbl cc n r.1.1, r.1.2)) (k := 1) (h := pbl cc n r.1.1) tr.1.2.1 (by decide)) rfl rfl (Nat.le_of_ble_eq_true rfl) (by decide) (rv_of (ci := 11) rfl rfl rfl) ?_
      refine J_cg2 (S' := ps (rlS (sF (stS (S0 S) n) 59 22 0) r.2) (pbl cc n r.1.1, 1, pbl cc n r.1.1)) (ps_same (if_pos q)) ?_
      refine J_cg2 (S' := ps (rlS (sF (stS (S0 S) n) 59 22 0) r.2) (lwR cc n r)) (ps_same (by unfold lwR; rw [if_pos ⟨q, qa⟩])) ?_
      refine J_aload_n (pc := 85) dX11_law_85 rfl ?_
      refine J_geti (pc := 86) dX11_law_86 kc11 fl_X11_119 rfl ?_
      refine J_if_eq (pc := 89) (tgt := 97) dX11_law_89 (by decide) (fun c89 => ?_) (fun c89 => absurd (show nI (lwR cc n r).2.1 = 0 by rw [hb]; rfl) c89)
      refine J_aload_n (pc := 97) dX11_law_97 rfl ?_
      refine J_iconst (pc := 98) (v := -1) dX11_law_98 (by decide) ?_
      refine J_puti (pc := 99) dX11_law_99 kc11 fl_X11_9 rfl ⟨rfl, rfl⟩ ?_
      refine J_cg2 (ps_sF (rlS (sF (stS (S0 S) n) 59 22 0) r.2) (lwR cc n r) (by decide) (by decide) (by decide)) ?_
      refine J_aload_n (pc := 102) dX11_law_102 rfl ?_
      refine J_aload_n (pc := 103) dX11_law_103 rfl ?_
      refine J_geti (pc := 104) dX11_law_104 kc11 fl_X11_215 rfl ?_
      refine J_t1 (y := nI r.2.length) rfl ?_
      refine J_puti (pc := 107) dX11_law_107 kc11 fl_X11_200 rfl ⟨rfl, rfl⟩ ?_
      refine J_aload_n (pc := 110) dX11_law_110 rfl ?_
      refine J_getr (pc := 111) dX11_law_111 kc11 fl_X11_55 rfl ?_
      refine J_aload_n (pc := 114) dX11_law_114 rfl ?_
      refine J_getr (pc := 115) dX11_law_115 kc11 fl_X11_52 rfl ?_
      refine J_aload_n (pc := 118) dX11_law_118 rfl ?_
      refine J_geti (pc := 119) dX11_law_119 kc11 fl_X11_200 rfl ?_
      refine J_t1 (y := nI r.2.length) rfl ?_
      refine J_csv (pc := 122) (N := mX11_lays) dX11_law_122 ml_X11_196 cf_X11_lays cs_X11_lays (r_X11_lays (A := 269) (a0 := 270) (B := 108) (b0 := 109) (N := 160) (w := 2) (m := r.2.length) rfl rfl (fun k hk => lay_readLaw hk) (fun k hk => lay_law hk) (by omega) hl16 (by decide) (by decide)) rfl rfl (Nat.le_of_ble_eq_true rfl) (by decide) ?_
      refine J_iconst (pc := 125) (v := 1) dX11_law_125 (by decide) ?_
      exact J_iret (pc := 126) rfl rfl rfl dX11_law_126 (rq hQ rfl rfl)
    · skip
      refine J_aload_n (pc := 58) dX11_law_58 rfl ?_
      refine J_geti (pc := 59) dX11_law_59 kc11 fl_X11_119 rfl ?_
      refine J_if_ne (pc := 62) (tgt := 85) dX11_law_62 (by decide) (fun c62 => absurd (show nI r.1.2.1 = 0 by rw [q]; rfl) c62) (fun c62 => ?_)
      refine J_aload_n (pc := 65) dX11_law_65 rfl ?_
      refine J_geti (pc := 66) dX11_law_66 kc11 fl_X11_112 rfl ?_
      refine J_aload_n (pc := 69) dX11_law_69 rfl ?_
      refine J_geti (pc := 70) dX11_law_70 kc11 fl_X11_109 rfl ?_
      refine J_icmp_ge (pc := 73) (tgt := 85) dX11_law_73 (by decide) (fun c73 => ?_) (fun c73 => absurd (show nI n ≤ nI (pbl cc n r.1.1) from nI_le (by omega) (by omega)) c73)
      refine J_cg2 (S' := ps (rlS (sF (stS (S0 S) n) 59 22 0) r.2) (lwR cc n r)) (ps_same (by unfold lwR; rw [if_neg (fun z => qa z.2)])) ?_
      refine J_aload_n (pc := 85) dX11_law_85 rfl ?_
      refine J_geti (pc := 86) dX11_law_86 kc11 fl_X11_119 rfl ?_
      refine J_if_eq (pc := 89) (tgt := 97) dX11_law_89 (by decide) (fun c89 => ?_) (fun c89 => absurd (show nI (lwR cc n r).2.1 = 0 by rw [hb]; rfl) c89)
      refine J_aload_n (pc := 97) dX11_law_97 rfl ?_
      refine J_iconst (pc := 98) (v := -1) dX11_law_98 (by decide) ?_
      refine J_puti (pc := 99) dX11_law_99 kc11 fl_X11_9 rfl ⟨rfl, rfl⟩ ?_
      refine J_cg2 (ps_sF (rlS (sF (stS (S0 S) n) 59 22 0) r.2) (lwR cc n r) (by decide) (by decide) (by decide)) ?_
      refine J_aload_n (pc := 102) dX11_law_102 rfl ?_
      refine J_aload_n (pc := 103) dX11_law_103 rfl ?_
      refine J_geti (pc := 104) dX11_law_104 kc11 fl_X11_215 rfl ?_
      refine J_t1 (y := nI r.2.length) rfl ?_
      refine J_puti (pc := 107) dX11_law_107 kc11 fl_X11_200 rfl ⟨rfl, rfl⟩ ?_
      refine J_aload_n (pc := 110) dX11_law_110 rfl ?_
      refine J_getr (pc := 111) dX11_law_111 kc11 fl_X11_55 rfl ?_
      refine J_aload_n (pc := 114) dX11_law_114 rfl ?_
      refine J_getr (pc := 115) dX11_law_115 kc11 fl_X11_52 rfl ?_
      refine J_aload_n (pc := 118) dX11_law_118 rfl ?_
      refine J_geti (pc := 119) dX11_law_119 kc11 fl_X11_200 rfl ?_
      refine J_t1 (y := nI r.2.length) rfl ?_
      refine J_csv (pc := 122) (N := mX11_lays) dX11_law_122 ml_X11_196 cf_X11_lays cs_X11_lays (r_X11_lays (A := 269) (a0 := 270) (B := 108) (b0 := 109) (N := 160) (w := 2) (m := r.2.length) rfl rfl (fun k hk => lay_readLaw hk) (fun k hk => lay_law hk) (by omega) hl16 (by decide) (by decide)) rfl rfl (Nat.le_of_ble_eq_true rfl) (by decide) ?_
      refine J_iconst (pc := 125) (v := 1) dX11_law_125 (by decide) ?_
      exact J_iret (pc := 126) rfl rfl rfl dX11_law_126 (rq hQ rfl rfl)
  · skip
    refine J_aload_n (pc := 58) dX11_law_58 rfl ?_
    refine J_geti (pc := 59) dX11_law_59 kc11 fl_X11_119 rfl ?_
    refine J_if_ne (pc := 62) (tgt := 85) dX11_law_62 (by decide) (fun c62 => ?_) (fun c62 => absurd c62 (fun z => q ((nI_z tr.1.2.1).mp z)))
    refine J_cg2 (S' := ps (rlS (sF (stS (S0 S) n) 59 22 0) r.2) (lwR cc n r)) (ps_same (by unfold lwR; rw [if_neg (fun z => q z.1)])) ?_
    refine J_aload_n (pc := 85) dX11_law_85 rfl ?_
    refine J_geti (pc := 86) dX11_law_86 kc11 fl_X11_119 rfl ?_
    refine J_if_eq (pc := 89) (tgt := 97) dX11_law_89 (by decide) (fun c89 => ?_) (fun c89 => absurd (show nI (lwR cc n r).2.1 = 0 by rw [hb]; rfl) c89)
    refine J_aload_n (pc := 97) dX11_law_97 rfl ?_
    refine J_iconst (pc := 98) (v := -1) dX11_law_98 (by decide) ?_
    refine J_puti (pc := 99) dX11_law_99 kc11 fl_X11_9 rfl ⟨rfl, rfl⟩ ?_
    refine J_cg2 (ps_sF (rlS (sF (stS (S0 S) n) 59 22 0) r.2) (lwR cc n r) (by decide) (by decide) (by decide)) ?_
    refine J_aload_n (pc := 102) dX11_law_102 rfl ?_
    refine J_aload_n (pc := 103) dX11_law_103 rfl ?_
    refine J_geti (pc := 104) dX11_law_104 kc11 fl_X11_215 rfl ?_
    refine J_t1 (y := nI r.2.length) rfl ?_
    refine J_puti (pc := 107) dX11_law_107 kc11 fl_X11_200 rfl ⟨rfl, rfl⟩ ?_
    refine J_aload_n (pc := 110) dX11_law_110 rfl ?_
    refine J_getr (pc := 111) dX11_law_111 kc11 fl_X11_55 rfl ?_
    refine J_aload_n (pc := 114) dX11_law_114 rfl ?_
    refine J_getr (pc := 115) dX11_law_115 kc11 fl_X11_52 rfl ?_
    refine J_aload_n (pc := 118) dX11_law_118 rfl ?_
    refine J_geti (pc := 119) dX11_law_119 kc11 fl_X11_200 rfl ?_
    refine J_t1 (y := nI r.2.length) rfl ?_
    refine J_csv (pc := 122) (N := mX11_lays) dX11_law_122 ml_X11_196 cf_X11_lays cs_X11_lays (r_X11_lays (A := 269) (a0 := 270) (B := 108) (b0 := 109) (N := 160) (w := 2) (m := r.2.length) rfl rfl (fun k hk => lay_readLaw hk) (fun k hk => lay_law hk) (by omega) hl16 (by decide) (by decide)) rfl rfl (Nat.le_of_ble_eq_true rfl) (by decide) ?_
    refine J_iconst (pc := 125) (v := 1) dX11_law_125 (by decide) ?_
    exact J_iret (pc := 126) rfl rfl rfl dX11_law_126 (rq hQ rfl rfl)
