/-! vows -/
def VW (S : Sx) (ns : Nat) (vo : Nat → Option Nat) : Prop := ∀ s, s < ns → (vo s = none ∧ sa S 67 s = -1) ∨ ∃ v, vo s = some v ∧ v < ns ∧ sa S 67 s = nI v
def ov (x : Option Nat) : Int32 := match x with
  | none => -1
  | some k => nI k
def itv (vo : Nat → Option Nat) : Nat → Nat → Option Nat
  | 0, s => some s
  | n + 1, s => (itv vo n s).bind vo
theorem VW_at {S : Sx} {ns : Nat} {vo : Nat → Option Nat} (h : VW S ns vo) {s : Nat} (hs : s < ns) : sa S 67 s = ov (vo s) ∧ ∀ v, vo s = some v → v < ns := by
  rcases h s hs with ⟨h1, h2⟩ | ⟨v, h1, h2, h3⟩
  · rw [h1]; exact ⟨h2, fun v q => by cases q⟩
  · rw [h1]; exact ⟨h3, fun w q => by cases q; exact h2⟩
theorem itv_1 (vo : Nat → Option Nat) : ∀ n s, itv vo (n + 1) s = (vo s).bind (itv vo n)
  | 0, s => by show (some s).bind vo = _; cases h : vo s <;> simp [h, itv]
  | n + 1, s => by
    show (itv vo (n + 1) s).bind vo = _
    rw [itv_1 vo n s]
    cases vo s <;> rfl
theorem itv_add (vo : Nat → Option Nat) (a : Nat) : ∀ b s, itv vo (a + b) s = (itv vo b s).bind (itv vo a)
  | 0, s => rfl
  | b + 1, s => by
    rw [show a + (b + 1) = (a + b) + 1 by omega, itv_1, itv_1]
    cases h : vo s with
    | none => rfl
    | some v => show itv vo (a + b) v = (itv vo b v).bind (itv vo a); exact itv_add vo a b v
theorem itv_ns {S : Sx} {ns : Nat} {vo : Nat → Option Nat} (h : VW S ns vo) {s : Nat} (hs : s < ns) : ∀ n v, itv vo n s = some v → v < ns
  | 0, v, e => by cases e; exact hs
  | n + 1, v, e => by
    have e : (itv vo n s).bind vo = some v := e
    cases hq : itv vo n s with
    | none => rw [hq] at e; cases e
    | some u =>
      rw [hq] at e
      exact (VW_at h (itv_ns h hs n u hq)).2 v e
/-- the least n from 1 to N with n vows back to s -/
def rgv (vo : Nat → Option Nat) (s : Nat) : Nat → Option Nat
  | 0 => none
  | n + 1 => match rgv vo s n with
    | some k => some k
    | none => if itv vo (n + 1) s = some s then some (n + 1) else none
theorem rgv_no {vo : Nat → Option Nat} {s : Nat} : ∀ {n : Nat}, (∀ j, 1 ≤ j → j ≤ n → itv vo j s ≠ some s) → rgv vo s n = none
  | 0, _ => rfl
  | n + 1, h => by
    unfold rgv
    rw [rgv_no (fun j h1 h2 => h j h1 (by omega))]
    exact if_neg (h (n + 1) (by omega) (Nat.le_refl _))
theorem rgv_at {vo : Nat → Option Nat} {s k : Nat} (hk : itv vo k s = some s) (h1 : 1 ≤ k) (h : ∀ j, 1 ≤ j → j < k → itv vo j s ≠ some s) : ∀ {n : Nat}, k ≤ n → rgv vo s n = some k
  | 0, hn => absurd hn (by omega)
  | n + 1, hn => by
    unfold rgv
    by_cases e : k = n + 1
    · rw [rgv_no (fun j q1 q2 => h j q1 (by omega))]
      subst e
      exact if_pos hk
    · rw [rgv_at hk h1 h (n := n) (by omega)]
theorem rgv_sp {vo : Nat → Option Nat} {s k : Nat} : ∀ {n : Nat}, rgv vo s n = some k → itv vo k s = some s ∧ 1 ≤ k ∧ k ≤ n
  | 0, e => by cases e
  | n + 1, e => by
    unfold rgv at e
    cases hq : rgv vo s n with
    | some j =>
      rw [hq] at e
      cases e
      have := rgv_sp hq
      exact ⟨this.1, this.2.1, by omega⟩
    | none =>
      rw [hq] at e
      by_cases h : itv vo (n + 1) s = some s
      · rw [if_pos h] at e
        cases e
        exact ⟨h, by omega, Nat.le_refl _⟩
      · rw [if_neg h] at e
        cases e
theorem itv_none {vo : Nat → Option Nat} {s k : Nat} (h : itv vo k s = none) : ∀ j, k ≤ j → itv vo j s = none := by
  intro j hj
  rw [show j = (j - k) + k by omega, itv_add, h]
  rfl
theorem ov_nI {k : Nat} : ov (some k) = nI k := rfl
theorem itv_mod {vo : Nat → Option Nat} {a r : Nat} (h : itv vo r a = some a) : ∀ n, itv vo n a = itv vo (n % r) a := by
  intro n
  have key : ∀ q m, itv vo (m + r * q) a = itv vo m a := by
    intro q
    induction q with
    | zero => intro m; rfl
    | succ q ih =>
      intro m
      rw [show m + r * (q + 1) = (m + r * q) + r by rw [Nat.mul_add]; omega, itv_add, h]
      exact ih m
  have := key (n / r) (n % r)
  rw [Nat.mod_add_div] at this
  exact this
theorem r_X11_ringOf {g : Gp} {S : Sx} {s ns : Nat} {vo : Nat → Option Nat} (hV : VW S ns vo) (h8 : ns ≤ 8) (hs' : s < ns) : RT g mX11_ringOf 0 [.ref 59, .int (nI s)] S (some (.int (ov (rgv vo s 8)))) S := by
  refine RT_ofQ ⟨rfl, rfl⟩ (Nat.le_of_ble_eq_true rfl) (fun sz Q hQ => ?_)
  refine J_iload_n (pc := 0) dX11_ringOf_0 rfl ?_
  refine J_istore_n (pc := 1) dX11_ringOf_1 (by decide) rfl ?_
  refine J_iconst (pc := 2) (v := 1) dX11_ringOf_2 (by decide) ?_
  refine J_istore_n (pc := 3) dX11_ringOf_3 (by decide) rfl ?_
  show J g mX11_ringOf 0 [] 4 [some (.ref 59), some (.int (nI s)), some (.int (nI s)), some (.int (ix (0 + 1)))] [] (hs S) sz 0 0 Q
  refine dn_ind (n := 8) (P := fun k => ∀ a, itv vo k s = some a → (∀ j, 1 ≤ j → j ≤ k → itv vo j s ≠ some s) → J g mX11_ringOf 0 [] 4 [some (.ref 59), some (.int (nI s)), some (.int (nI a)), some (.int (ix (k + 1)))] [] (hs S) sz 0 0 Q) ?_ (fun k hi ih => ?_) 0 (Nat.zero_le _) s rfl (fun j q1 q2 => absurd q2 (by omega))
  · intro a ha hno
    refine J_iload_n (pc := 4) dX11_ringOf_4 rfl ?_
    refine J_bipush (pc := 5) (v := 8) dX11_ringOf_5 (by decide) ?_
    refine J_icmp_gt (pc := 7) (tgt := 37) dX11_ringOf_7 (by decide) (fun c7 => ?_) (fun c7 => absurd (show (8 : Int32) < ix 9 by rw [ix_nI]; exact nI_lt (a := 8) (by decide) (by decide)) c7)
    refine J_iconst (pc := 37) (v := -1) dX11_ringOf_37 (by decide) ?_
    exact J_iret (pc := 38) rfl rfl rfl dX11_ringOf_38 (rq hQ (by rw [rgv_no hno]; rfl) rfl)
  · intro a ha hno
    have han := itv_ns hV hs' k a ha
    obtain ⟨w1, w2⟩ := VW_at hV han
    have e1 : itv vo (k + 1) s = vo a := by show (itv vo k s).bind vo = _; rw [ha]; rfl
    cases hva : vo a with
    | none =>
      refine J_iload_n (pc := 4) dX11_ringOf_4 rfl ?_
      refine J_bipush (pc := 5) (v := 8) dX11_ringOf_5 (by decide) ?_
      refine J_icmp_gt (pc := 7) (tgt := 37) dX11_ringOf_7 (by decide) (fun c7 => absurd c7 (by rw [ix_nI]; exact nI_nlt (a := 8) (by omega) (by decide))) (fun c7 => ?_)
      refine J_aload_n (pc := 10) dX11_ringOf_10 rfl ?_
      refine J_getr (pc := 11) dX11_ringOf_11 kc11 fl_X11_35 rfl ?_
      refine J_iload_n (pc := 14) dX11_ringOf_14 rfl ?_
      refine J_il (pc := 15) dX11_ringOf_15 (by first | rfl | assumption) (by first | with_reducible rfl | assumption | exact ix_nI _ | rfl) ⟨by first | decide | omega, by decide⟩ ?_
      refine J_t1 (y := -1) (by rw [w1, hva]; rfl) ?_
      refine J_istore_n (pc := 16) dX11_ringOf_16 (by decide) rfl ?_
      refine J_iload_n (pc := 17) dX11_ringOf_17 rfl ?_
      refine J_iconst (pc := 18) (v := -1) dX11_ringOf_18 (by decide) ?_
      refine J_icmp_ne (pc := 19) (tgt := 24) dX11_ringOf_19 (by decide) (fun c19 => absurd rfl c19) (fun c19 => ?_)
      refine J_iconst (pc := 22) (v := -1) dX11_ringOf_22 (by decide) ?_
      exact J_iret rfl rfl rfl dX11_ringOf_23 (rq hQ (by rw [rgv_no (fun j q1 q2 => by
        by_cases q : j ≤ k
        · exact hno j q1 q
        · rw [itv_none (e1.trans hva) j (by omega)]; simp)]; rfl) rfl)
    | some b =>
      have hbn := w2 b hva
      refine J_iload_n (pc := 4) dX11_ringOf_4 rfl ?_
      refine J_bipush (pc := 5) (v := 8) dX11_ringOf_5 (by decide) ?_
      refine J_icmp_gt (pc := 7) (tgt := 37) dX11_ringOf_7 (by decide) (fun c7 => absurd c7 (by rw [ix_nI]; exact nI_nlt (a := 8) (by omega) (by decide))) (fun c7 => ?_)
      refine J_aload_n (pc := 10) dX11_ringOf_10 rfl ?_
      refine J_getr (pc := 11) dX11_ringOf_11 kc11 fl_X11_35 rfl ?_
      refine J_iload_n (pc := 14) dX11_ringOf_14 rfl ?_
      refine J_il (pc := 15) dX11_ringOf_15 (by first | rfl | assumption) (by first | with_reducible rfl | assumption | exact ix_nI _ | rfl) ⟨by first | decide | omega, by decide⟩ ?_
      refine J_t1 (y := nI b) (by rw [w1, hva]; rfl) ?_
      refine J_istore_n (pc := 16) dX11_ringOf_16 (by decide) rfl ?_
      refine J_iload_n (pc := 17) dX11_ringOf_17 rfl ?_
      refine J_iconst (pc := 18) (v := -1) dX11_ringOf_18 (by decide) ?_
      refine J_icmp_ne (pc := 19) (tgt := 24) dX11_ringOf_19 (by decide) (fun c19 => ?_) (fun c19 => absurd c19 (nI_nm (by omega)))
      refine J_iload_n (pc := 24) dX11_ringOf_24 rfl ?_
      refine J_iload_n (pc := 25) dX11_ringOf_25 rfl ?_
      refine J_icmp_ne (pc := 26) (tgt := 31) dX11_ringOf_26 (by decide) (fun c26 => ?_) (fun c26 => ?_)
      · refine J_iinc (pc := 31) (v := 1) dX11_ringOf_31 rfl (by decide) rfl ?_
        refine J_goto (pc := 34) (tgt := 4) dX11_ringOf_34 (by decide) ?_
        exact ih b (by rw [e1, hva]) (fun j q1 q2 => by
          by_cases q : j ≤ k
          · exact hno j q1 q
          · rw [show j = k + 1 by omega, e1, hva]; intro z; exact c26 (by rw [Option.some.inj z]))
      · refine J_iload_n (pc := 29) dX11_ringOf_29 rfl ?_
        exact J_iret (pc := 30) rfl rfl rfl dX11_ringOf_30 (rq hQ (by rw [rgv_at (k := k + 1) (by rw [e1, hva, (nI_eq (by omega) (by omega)).mp c26]) (by omega) (fun j q1 q2 => hno j q1 (by omega)) (n := 8) (by omega), ix_nI]; rfl) rfl)
theorem r_X11_ring_er {g : Gp} {S : Sx} {x : Int32} {ns nr np : Nat} {ow : Nat → Nat} (hH : MH S ns nr np ow) (hv : ¬ (0 ≤ x ∧ x ≤ nI ns - 1)) : RT g mX11_ring 2 [.ref 59, .int x] S (some (.int 0)) (er S 1 0) := by
  refine RT_ofQ ⟨rfl, rfl⟩ (Nat.le_of_ble_eq_true rfl) (fun sz Q hQ => ?_)
  refine J_aload_n (pc := 0) dX11_ring_0 rfl ?_
  refine J_iconst (pc := 1) (v := 0) dX11_ring_1 (by decide) ?_
  refine J_puti (pc := 2) dX11_ring_2 kc11 fl_X11_103 rfl ⟨rfl, rfl⟩ ?_
  refine J_aload_n (pc := 5) dX11_ring_5 rfl ?_
  refine J_aload_n (pc := 6) dX11_ring_6 rfl ?_
  refine J_iload_n (pc := 7) dX11_ring_7 rfl ?_
  refine J_cvr (pc := 8) (N := mX11_isSister) dX11_ring_8 ml_X11_336 cf_X11_isSister cv_X11_isSister (r_X11_isSister (S := S0 S) hH) rfl rfl (Nat.le_of_ble_eq_true rfl) (by decide) (rv_of (ci := 11) rfl rfl rfl) ?_
  refine J_ifp_ne (pc := 11) (tgt := 18) dX11_ring_11 (by decide) (fun c11 => absurd c11 hv) (fun c11 => ?_)
  refine J_iconst (pc := 14) (v := 1) dX11_ring_14 (by decide) ?_
  refine J_goto (pc := 15) (tgt := 19) dX11_ring_15 (by decide) ?_
  refine J_iconst (pc := 19) (v := 1) dX11_ring_19 (by decide) ?_
  refine J_iconst (pc := 20) (v := 0) dX11_ring_20 (by decide) ?_
  refine J_cvr (pc := 21) (N := mX11_bad) dX11_ring_21 ml_X11_183 cf_X11_bad cv_X11_bad (r_X11_bad_t (k := 0) rfl (by decide) (by decide) rfl) rfl rfl (Nat.le_of_ble_eq_true rfl) (by decide) (rv_of (ci := 11) rfl rfl rfl) ?_
  refine J_if_eq (pc := 24) (tgt := 29) dX11_ring_24 (by decide) (fun c24 => absurd c24 (by decide)) (fun c24 => ?_)
  refine J_iconst (pc := 27) (v := 0) dX11_ring_27 (by decide) ?_
  exact J_iret (pc := 28) rfl rfl rfl dX11_ring_28 (rq hQ (by first | rfl | simp [bI, *] | simp_all [bI]) rfl)
theorem r_X11_ring {g : Gp} {S : Sx} {s : Nat} {ns nr np : Nat} {ow : Nat → Nat} {vo : Nat → Option Nat} (hH : MH S ns nr np ow) (hV : VW S ns vo) (hs' : s < ns) : RT g mX11_ring 2 [.ref 59, .int (nI s)] S (some (.int (ov (rgv vo s 8)))) (S0 S) := by
  refine RT_ofQ ⟨rfl, rfl⟩ (Nat.le_of_ble_eq_true rfl) (fun sz Q hQ => ?_)
  have hH' := hH
  obtain ⟨e0, e1, e2, l0, l1, l2, ho⟩ := hH'
  refine J_aload_n (pc := 0) dX11_ring_0 rfl ?_
  refine J_iconst (pc := 1) (v := 0) dX11_ring_1 (by decide) ?_
  refine J_puti (pc := 2) dX11_ring_2 kc11 fl_X11_103 rfl ⟨rfl, rfl⟩ ?_
  refine J_aload_n (pc := 5) dX11_ring_5 rfl ?_
  refine J_aload_n (pc := 6) dX11_ring_6 rfl ?_
  refine J_iload_n (pc := 7) dX11_ring_7 rfl ?_
  refine J_cvr (pc := 8) (N := mX11_isSister) dX11_ring_8 ml_X11_336 cf_X11_isSister cv_X11_isSister (r_X11_isSister (S := S0 S) hH) rfl rfl (Nat.le_of_ble_eq_true rfl) (by decide) (rv_of (ci := 11) rfl rfl rfl) ?_
  refine J_ifp_ne (pc := 11) (tgt := 18) dX11_ring_11 (by decide) (fun c11 => ?_) (fun c11 => absurd (inx hs' (by omega)) c11)
  refine J_iconst (pc := 18) (v := 0) dX11_ring_18 (by decide) ?_
  refine J_iconst (pc := 19) (v := 1) dX11_ring_19 (by decide) ?_
  refine J_iconst (pc := 20) (v := 0) dX11_ring_20 (by decide) ?_
  refine J_cvr (pc := 21) (N := mX11_bad) dX11_ring_21 ml_X11_183 cf_X11_bad cv_X11_bad (r_X11_bad_f rfl) rfl rfl (Nat.le_of_ble_eq_true rfl) (by decide) (rv_of (ci := 11) rfl rfl rfl) ?_
  refine J_if_eq (pc := 24) (tgt := 29) dX11_ring_24 (by decide) (fun c24 => ?_) (fun c24 => absurd rfl c24)
  refine J_aload_n (pc := 29) dX11_ring_29 rfl ?_
  refine J_iload_n (pc := 30) dX11_ring_30 rfl ?_
  refine J_cvr (pc := 31) (N := mX11_ringOf) dX11_ring_31 ml_X11_373 cf_X11_ringOf cv_X11_ringOf (r_X11_ringOf (S := S0 S) hV l0 hs') rfl rfl (Nat.le_of_ble_eq_true rfl) (by decide) (rv_of (ci := 11) rfl rfl rfl) ?_
  exact J_iret (pc := 34) rfl rfl rfl dX11_ring_34 (rq hQ (by first | rfl | simp [bI, *] | simp_all [bI]) rfl)
theorem r_X11_follows_e1 {g : Gp} {S : Sx} {x y : Int32} {ns nr np : Nat} {ow : Nat → Nat} (hH : MH S ns nr np ow) (hv : ¬ (0 ≤ x ∧ x ≤ nI ns - 1)) : RT g mX11_follows 2 [.ref 59, .int x, .int y] S (some (.int 0)) (er S 1 0) := by
  refine RT_ofQ ⟨rfl, rfl⟩ (Nat.le_of_ble_eq_true rfl) (fun sz Q hQ => ?_)
  refine J_aload_n (pc := 0) dX11_follows_0 rfl ?_
  refine J_iconst (pc := 1) (v := 0) dX11_follows_1 (by decide) ?_
  refine J_puti (pc := 2) dX11_follows_2 kc11 fl_X11_103 rfl ⟨rfl, rfl⟩ ?_
  refine J_aload_n (pc := 5) dX11_follows_5 rfl ?_
  refine J_aload_n (pc := 6) dX11_follows_6 rfl ?_
  refine J_iload_n (pc := 7) dX11_follows_7 rfl ?_
  refine J_cvr (pc := 8) (N := mX11_isSister) dX11_follows_8 ml_X11_336 cf_X11_isSister cv_X11_isSister (r_X11_isSister (S := S0 S) hH) rfl rfl (Nat.le_of_ble_eq_true rfl) (by decide) (rv_of (ci := 11) rfl rfl rfl) ?_
  refine J_ifp_ne (pc := 11) (tgt := 18) dX11_follows_11 (by decide) (fun c11 => absurd c11 hv) (fun c11 => ?_)
  refine J_iconst (pc := 14) (v := 1) dX11_follows_14 (by decide) ?_
  refine J_goto (pc := 15) (tgt := 19) dX11_follows_15 (by decide) ?_
  refine J_iconst (pc := 19) (v := 1) dX11_follows_19 (by decide) ?_
  refine J_iconst (pc := 20) (v := 0) dX11_follows_20 (by decide) ?_
  refine J_cvr (pc := 21) (N := mX11_bad) dX11_follows_21 ml_X11_183 cf_X11_bad cv_X11_bad (r_X11_bad_t (k := 0) rfl (by decide) (by decide) rfl) rfl rfl (Nat.le_of_ble_eq_true rfl) (by decide) (rv_of (ci := 11) rfl rfl rfl) ?_
  refine J_if_ne (pc := 24) (tgt := 52) dX11_follows_24 (by decide) (fun c24 => ?_) (fun c24 => absurd c24 (by decide))
  refine J_iconst (pc := 52) (v := 0) dX11_follows_52 (by decide) ?_
  exact J_iret (pc := 53) rfl rfl rfl dX11_follows_53 (rq hQ (by first | rfl | simp [bI, *] | simp_all [bI]) rfl)
theorem r_X11_follows_e2 {g : Gp} {S : Sx} {x y : Int32} {ns nr np : Nat} {ow : Nat → Nat} (hH : MH S ns nr np ow) (hv : 0 ≤ x ∧ x ≤ nI ns - 1) (hv2 : ¬ (0 ≤ y ∧ y ≤ 1000000)) : RT g mX11_follows 2 [.ref 59, .int x, .int y] S (some (.int 0)) (er S 2 1) := by
  refine RT_ofQ ⟨rfl, rfl⟩ (Nat.le_of_ble_eq_true rfl) (fun sz Q hQ => ?_)
  refine J_aload_n (pc := 0) dX11_follows_0 rfl ?_
  refine J_iconst (pc := 1) (v := 0) dX11_follows_1 (by decide) ?_
  refine J_puti (pc := 2) dX11_follows_2 kc11 fl_X11_103 rfl ⟨rfl, rfl⟩ ?_
  refine J_aload_n (pc := 5) dX11_follows_5 rfl ?_
  refine J_aload_n (pc := 6) dX11_follows_6 rfl ?_
  refine J_iload_n (pc := 7) dX11_follows_7 rfl ?_
  refine J_cvr (pc := 8) (N := mX11_isSister) dX11_follows_8 ml_X11_336 cf_X11_isSister cv_X11_isSister (r_X11_isSister (S := S0 S) hH) rfl rfl (Nat.le_of_ble_eq_true rfl) (by decide) (rv_of (ci := 11) rfl rfl rfl) ?_
  refine J_ifp_ne (pc := 11) (tgt := 18) dX11_follows_11 (by decide) (fun c11 => ?_) (fun c11 => absurd hv c11)
  refine J_iconst (pc := 18) (v := 0) dX11_follows_18 (by decide) ?_
  refine J_iconst (pc := 19) (v := 1) dX11_follows_19 (by decide) ?_
  refine J_iconst (pc := 20) (v := 0) dX11_follows_20 (by decide) ?_
  refine J_cvr (pc := 21) (N := mX11_bad) dX11_follows_21 ml_X11_183 cf_X11_bad cv_X11_bad (r_X11_bad_f rfl) rfl rfl (Nat.le_of_ble_eq_true rfl) (by decide) (rv_of (ci := 11) rfl rfl rfl) ?_
  refine J_if_ne (pc := 24) (tgt := 52) dX11_follows_24 (by decide) (fun c24 => absurd rfl c24) (fun c24 => ?_)
  refine J_aload_n (pc := 27) dX11_follows_27 rfl ?_
  refine J_iload_n (pc := 28) dX11_follows_28 rfl ?_
  refine J_iconst (pc := 29) (v := 0) dX11_follows_29 (by decide) ?_
  refine J_ldcw (pc := 30) (v := 1000000) dX11_follows_30 kt_X11_376 ?_
  refine J_csr (pc := 33) (N := mX11_in) dX11_follows_33 ml_X11_137 cf_X11_in cs_X11_in r_X11_in rfl rfl (Nat.le_of_ble_eq_true rfl) (by decide) ?_
  refine J_ifp_ne (pc := 36) (tgt := 43) dX11_follows_36 (by decide) (fun c36 => absurd c36 hv2) (fun c36 => ?_)
  refine J_iconst (pc := 39) (v := 1) dX11_follows_39 (by decide) ?_
  refine J_goto (pc := 40) (tgt := 44) dX11_follows_40 (by decide) ?_
  refine J_iconst (pc := 44) (v := 2) dX11_follows_44 (by decide) ?_
  refine J_iconst (pc := 45) (v := 1) dX11_follows_45 (by decide) ?_
  refine J_cvr (pc := 46) (N := mX11_bad) dX11_follows_46 ml_X11_183 cf_X11_bad cv_X11_bad (r_X11_bad_t (k := 1) rfl (by decide) (by decide) rfl) rfl rfl (Nat.le_of_ble_eq_true rfl) (by decide) (rv_of (ci := 11) rfl rfl rfl) ?_
  refine J_if_eq (pc := 49) (tgt := 54) dX11_follows_49 (by decide) (fun c49 => absurd c49 (by decide)) (fun c49 => ?_)
  refine J_iconst (pc := 52) (v := 0) dX11_follows_52 (by decide) ?_
  exact J_iret (pc := 53) rfl rfl rfl dX11_follows_53 (rq hQ (by first | rfl | simp [bI, *] | simp_all [bI]) rfl)
theorem r_X11_follows {g : Gp} {S : Sx} {s n : Nat} {ns nr np : Nat} {ow : Nat → Nat} {vo : Nat → Option Nat} (hH : MH S ns nr np ow) (hV : VW S ns vo) (hs' : s < ns) (hn : n ≤ 1000000) : RT g mX11_follows 2 [.ref 59, .int (nI s), .int (nI n)] S (some (.int (ov (itv vo n s)))) (S0 S) := by
  refine RT_ofQ ⟨rfl, rfl⟩ (Nat.le_of_ble_eq_true rfl) (fun sz Q hQ => ?_)
  have hH' := hH
  obtain ⟨e0, e1, e2, l0, l1, l2, ho⟩ := hH'
  refine J_aload_n (pc := 0) dX11_follows_0 rfl ?_
  refine J_iconst (pc := 1) (v := 0) dX11_follows_1 (by decide) ?_
  refine J_puti (pc := 2) dX11_follows_2 kc11 fl_X11_103 rfl ⟨rfl, rfl⟩ ?_
  refine J_aload_n (pc := 5) dX11_follows_5 rfl ?_
  refine J_aload_n (pc := 6) dX11_follows_6 rfl ?_
  refine J_iload_n (pc := 7) dX11_follows_7 rfl ?_
  refine J_cvr (pc := 8) (N := mX11_isSister) dX11_follows_8 ml_X11_336 cf_X11_isSister cv_X11_isSister (r_X11_isSister (S := S0 S) hH) rfl rfl (Nat.le_of_ble_eq_true rfl) (by decide) (rv_of (ci := 11) rfl rfl rfl) ?_
  refine J_ifp_ne (pc := 11) (tgt := 18) dX11_follows_11 (by decide) (fun c11 => ?_) (fun c11 => absurd (inx hs' (by omega)) c11)
  refine J_iconst (pc := 18) (v := 0) dX11_follows_18 (by decide) ?_
  refine J_iconst (pc := 19) (v := 1) dX11_follows_19 (by decide) ?_
  refine J_iconst (pc := 20) (v := 0) dX11_follows_20 (by decide) ?_
  refine J_cvr (pc := 21) (N := mX11_bad) dX11_follows_21 ml_X11_183 cf_X11_bad cv_X11_bad (r_X11_bad_f rfl) rfl rfl (Nat.le_of_ble_eq_true rfl) (by decide) (rv_of (ci := 11) rfl rfl rfl) ?_
  refine J_if_ne (pc := 24) (tgt := 52) dX11_follows_24 (by decide) (fun c24 => absurd rfl c24) (fun c24 => ?_)
  refine J_aload_n (pc := 27) dX11_follows_27 rfl ?_
  refine J_iload_n (pc := 28) dX11_follows_28 rfl ?_
  refine J_iconst (pc := 29) (v := 0) dX11_follows_29 (by decide) ?_
  refine J_ldcw (pc := 30) (v := 1000000) dX11_follows_30 kt_X11_376 ?_
  refine J_csr (pc := 33) (N := mX11_in) dX11_follows_33 ml_X11_137 cf_X11_in cs_X11_in r_X11_in rfl rfl (Nat.le_of_ble_eq_true rfl) (by decide) ?_
  refine J_ifp_ne (pc := 36) (tgt := 43) dX11_follows_36 (by decide) (fun c36 => ?_) (fun c36 => absurd (inw 1000000 rfl hn (by decide)) c36)
  refine J_iconst (pc := 43) (v := 0) dX11_follows_43 (by decide) ?_
  refine J_iconst (pc := 44) (v := 2) dX11_follows_44 (by decide) ?_
  refine J_iconst (pc := 45) (v := 1) dX11_follows_45 (by decide) ?_
  refine J_cvr (pc := 46) (N := mX11_bad) dX11_follows_46 ml_X11_183 cf_X11_bad cv_X11_bad (r_X11_bad_f rfl) rfl rfl (Nat.le_of_ble_eq_true rfl) (by decide) (rv_of (ci := 11) rfl rfl rfl) ?_
  refine J_if_eq (pc := 49) (tgt := 54) dX11_follows_49 (by decide) (fun c49 => ?_) (fun c49 => absurd rfl c49)
  refine J_iload_n (pc := 54) dX11_follows_54 rfl ?_
  refine J_istore_n (pc := 55) dX11_follows_55 (by decide) rfl ?_
  refine J_iload_n (pc := 56) dX11_follows_56 rfl ?_
  refine J_istore (pc := 57) dX11_follows_57 (by decide) rfl ?_
  have loop : ∀ L a, a < ns → L ≤ 1000000 → itv vo n s = itv vo L a → J g mX11_follows 2 [] 59 [some (.ref 59), some (.int (nI s)), some (.int (nI n)), some (.int (nI a)), some (.int (nI L)), none] [] (hs (S0 S)) sz 0 0 Q := by
    intro L
    induction L using Nat.strongRecOn with
    | _ L ih =>
      intro a ha hL he
      by_cases hL0 : L = 0
      · subst hL0
        refine J_iload (pc := 59) dX11_follows_59 rfl ?_
        refine J_if_le (pc := 61) (tgt := 114) dX11_follows_61 (by decide) (fun c61 => ?_) (fun c61 => absurd (by decide) c61)
        refine J_iload_n (pc := 114) dX11_follows_114 rfl ?_
        exact J_iret (pc := 115) rfl rfl rfl dX11_follows_115 (rq hQ (by rw [he]; rfl) rfl)
      · obtain ⟨w1, w2⟩ := VW_at hV ha
        have step : ∀ L', 0 < L' → L' ≤ L → itv vo n s = itv vo L' a → J g mX11_follows 2 [] 101 [some (.ref 59), some (.int (nI s)), some (.int (nI n)), some (.int (nI a)), some (.int (nI L')), none] [] (hs (S0 S)) sz 0 0 Q := by
          intro L' h0 hLL he'
          obtain ⟨M, rfl⟩ : ∃ M, L' = M + 1 := ⟨L' - 1, by omega⟩
          rw [itv_1] at he'
          cases hva : vo a with
          | none =>
            rw [hva] at he'
            refine J_aload_n (pc := 101) dX11_follows_101 rfl ?_
            refine J_getr (pc := 102) dX11_follows_102 kc11 fl_X11_35 rfl ?_
            refine J_iload_n (pc := 105) dX11_follows_105 rfl ?_
            refine J_il (pc := 106) dX11_follows_106 (by first | rfl | assumption) (by first | with_reducible rfl | assumption | exact ix_nI _ | rfl) ⟨by first | decide | omega, by decide⟩ ?_
            refine J_t1 (y := -1) (w1.trans (by rw [hva]; rfl)) ?_
            refine J_istore_n (pc := 107) dX11_follows_107 (by decide) rfl ?_
            refine J_iinc (pc := 108) (v := -1) dX11_follows_108 rfl (by decide) rfl ?_
            refine J_goto (pc := 111) (tgt := 59) dX11_follows_111 (by decide) ?_
            refine J_iload (pc := 59) dX11_follows_59 rfl ?_
            refine J_if_le (pc := 61) (tgt := 114) dX11_follows_61 (by decide) (fun c61 => ?_) (fun c61 => ?_)
            · refine J_iload_n (pc := 114) dX11_follows_114 rfl ?_
              exact J_iret (pc := 115) rfl rfl rfl dX11_follows_115 (rq hQ (by rw [he']; rfl) rfl)
            · refine J_iload_n (pc := 64) dX11_follows_64 rfl ?_
              refine J_iconst (pc := 65) (v := -1) dX11_follows_65 (by decide) ?_
              refine J_icmp_eq (pc := 66) (tgt := 114) dX11_follows_66 (by decide) (fun c66 => ?_) (fun c66 => absurd rfl c66)
              refine J_iload_n (pc := 114) dX11_follows_114 rfl ?_
              exact J_iret (pc := 115) rfl rfl rfl dX11_follows_115 (rq hQ (by rw [he']; rfl) rfl)
          | some b =>
            rw [hva] at he'
            refine J_aload_n (pc := 101) dX11_follows_101 rfl ?_
            refine J_getr (pc := 102) dX11_follows_102 kc11 fl_X11_35 rfl ?_
            refine J_iload_n (pc := 105) dX11_follows_105 rfl ?_
            refine J_il (pc := 106) dX11_follows_106 (by first | rfl | assumption) (by first | with_reducible rfl | assumption | exact ix_nI _ | rfl) ⟨by first | decide | omega, by decide⟩ ?_
            refine J_t1 (y := nI b) (w1.trans (by rw [hva]; rfl)) ?_
            refine J_istore_n (pc := 107) dX11_follows_107 (by decide) rfl ?_
            refine J_iinc (pc := 108) (v := -1) dX11_follows_108 rfl (by decide) rfl ?_
            refine J_goto (pc := 111) (tgt := 59) dX11_follows_111 (by decide) ?_
            exact J_cg1 (by rw [← pk_m1 M]; rfl) (ih M (by omega) b (w2 b hva) (by omega) he')
        refine J_iload (pc := 59) dX11_follows_59 rfl ?_
        refine J_if_le (pc := 61) (tgt := 114) dX11_follows_61 (by decide) (fun c61 => absurd c61 (nI_nle (by omega) (by omega))) (fun c61 => ?_)
        refine J_iload_n (pc := 64) dX11_follows_64 rfl ?_
        refine J_iconst (pc := 65) (v := -1) dX11_follows_65 (by decide) ?_
        refine J_icmp_eq (pc := 66) (tgt := 114) dX11_follows_66 (by decide) (fun c66 => absurd c66 (nI_nm (by omega))) (fun c66 => ?_)
        refine J_aload_n (pc := 69) dX11_follows_69 rfl ?_
        refine J_iload_n (pc := 70) dX11_follows_70 rfl ?_
        refine J_cvr (pc := 71) (N := mX11_ringOf) dX11_follows_71 ml_X11_373 cf_X11_ringOf cv_X11_ringOf (r_X11_ringOf (S := S0 S) hV l0 ha) rfl rfl (Nat.le_of_ble_eq_true rfl) (by decide) (rv_of (ci := 11) rfl rfl rfl) ?_
        cases hrg : rgv vo a 8 with
        | none =>
          refine J_istore (pc := 74) dX11_follows_74 (by decide) rfl ?_
          refine J_iload (pc := 76) dX11_follows_76 rfl ?_
          refine J_iconst (pc := 78) (v := -1) dX11_follows_78 (by decide) ?_
          refine J_icmp_ne (pc := 79) (tgt := 87) dX11_follows_79 (by decide) (fun c79 => absurd rfl c79) (fun c79 => ?_)
          refine J_iload (pc := 82) dX11_follows_82 rfl ?_
          refine J_goto (pc := 84) (tgt := 92) dX11_follows_84 (by decide) ?_
          refine J_istore (pc := 92) dX11_follows_92 (by decide) rfl ?_
          refine J_iload (pc := 94) dX11_follows_94 rfl ?_
          refine J_if_ne (pc := 96) (tgt := 101) dX11_follows_96 (by decide) (fun c96 => ?_) (fun c96 => absurd c96 (nI_ne0 (by omega) (by omega)))
          refine J_forget (fun i v hv => ?_) (step L (by omega) (Nat.le_refl _) he)
          rcases i with _ | _ | _ | _ | _ | _ | i
          all_goals first | exact hv | (simp at hv)
        | some k =>
          obtain ⟨k1, k2, k3⟩ := rgv_sp hrg
          refine J_istore (pc := 74) dX11_follows_74 (by decide) rfl ?_
          refine J_iload (pc := 76) dX11_follows_76 rfl ?_
          refine J_iconst (pc := 78) (v := -1) dX11_follows_78 (by decide) ?_
          refine J_icmp_ne (pc := 79) (tgt := 87) dX11_follows_79 (by decide) (fun c79 => ?_) (fun c79 => absurd c79 (nI_nm (by omega)))
          refine J_iload (pc := 87) dX11_follows_87 rfl ?_
          refine J_iload (pc := 89) dX11_follows_89 rfl ?_
          refine J_irem (pc := 91) dX11_follows_91 (nI_ne0 (by omega) (by omega)) ?_
          refine J_t1 (y := nI (L % k)) (pk_rem (by omega) (by omega) (by omega)) ?_
          refine J_istore (pc := 92) dX11_follows_92 (by decide) rfl ?_
          refine J_iload (pc := 94) dX11_follows_94 rfl ?_
          refine J_if_ne (pc := 96) (tgt := 101) dX11_follows_96 (by decide) (fun c96 => ?_) (fun c96 => ?_)
          · have hz : ¬ L % k = 0 := fun q => c96 (by rw [q]; rfl)
            refine J_forget (fun i v hv => ?_) (step (L % k) (by omega) (Nat.mod_le L k) (he.trans (itv_mod k1 L)))
            rcases i with _ | _ | _ | _ | _ | _ | i
            all_goals first | exact hv | (simp at hv)
          · have hz : L % k = 0 := (nI_eq (b := 0) (by have := Nat.mod_le L k; omega) (by decide)).mp c96
            refine J_iload_n (pc := 99) dX11_follows_99 rfl ?_
            exact J_iret (pc := 100) rfl rfl rfl dX11_follows_100 (rq hQ (by rw [he, itv_mod k1, hz]; rfl) rfl)
  exact loop n s hs' hn rfl
