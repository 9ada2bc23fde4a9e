/-! ===== the trial row, as scratch of a call ===== -/
def w2 (S T : Sx) : Sx := (sf S, sp S, fun a => if a = 536 then sa T 536 else sa S a, sl S, sx T)
/-- a contract that answers v and leaves S', but for the trial row and the scratch -/
def RV (g : Gp) (N : Mt) (d : Nat) (as : List Value) (S : Sx) (v : Option Value) (S' : Sx) : Prop := ∀ sz, NT g N d 0 0 as (hs S) sz (fun o h sz' => o = .inl v ∧ (∃ T, h = hs (w2 S' T)) ∧ sz' = sz)
theorem RV_ofQ {g : Gp} {N : Mt} {d : Nat} {as : List Value} {S S' : Sx} {v : Option Value} (hy : plainName N.1.cls = true ∧ isLaw N = false) (hn : (lsl as).length ≤ N.2.2.1) (k : ∀ sz Q, (∀ T', Q (.inl v) (hs (w2 S' T')) sz) → J g N d [] 0 (lsp N.2.2.1 (lsl as)) [] (hs S) sz 0 0 Q) : RV g N d as S v S' := fun sz => NT_of_CT (fun E h sz q => by cases q.1) (CT_of_J hy hn (J_forget (lsp_at _ _) (k sz _ (fun T' => ⟨rfl, ⟨T', rfl⟩, rfl⟩))))
/-- S' is S off the trial row -/
def off (S S' : Sx) : Prop := sf S' = sf S ∧ sp S' = sp S ∧ (∀ a, a ≠ 536 → sa S' a = sa S a) ∧ sl S' = sl S
theorem off_r (S : Sx) : off S S := ⟨rfl, rfl, fun _ _ => rfl, rfl⟩
theorem off_A {S S' : Sx} (h : off S S') {k : Nat} {v : Int32} : off S (sA S' 536 k v) := ⟨h.1, h.2.1, fun a ha => (up2_o ha).trans (h.2.2.1 a ha), h.2.2.2⟩
theorem off_w2 {S S' T : Sx} (h : off S S') : ∃ T', w1 S' T = w2 S T' := by
  refine ⟨(sf S, sp S, sa S', sl S, sx T), ?_⟩
  obtain ⟨h1, h2, h3, h4⟩ := h
  have : sa S' = fun a => if a = 536 then sa S' 536 else sa S a := by
    funext a
    by_cases ha : a = 536
    · simp [ha]
    · simp [ha, h3 a ha]
  show (sf S', sp S', sa S', sl S', sx T) = (sf S, sp S, fun a => if a = 536 then sa S' 536 else sa S a, sl S, sx T)
  rw [← this, h1, h2, h4]
theorem rqo {Q : Po} {sz : Nat} {x y : Int32} {S S' T : Sx} (hQ : ∀ T', Q (.inl (some (.int y))) (hs (w2 S T')) sz) (h : off S S') (h1 : x = y) : Q (.inl (some (.int x))) (hs (w1 S' T)) sz := by
  obtain ⟨T', e⟩ := off_w2 (T := T) h
  rw [e, h1]
  exact hQ T'
theorem off_dyS {S S' : Sx} (h : off S S') : ∀ i, off S (dyS S' 536 i)
  | 0 => h
  | i + 1 => off_A (off_A (off_dyS h i))
theorem off_dyE {S S' : Sx} (h : off S S') (nr : Nat) : off S (dyE S' 536 nr) := off_A (off_dyS h nr)
theorem off_lpS {S S' : Sx} (h : off S S') (sv : Int32) (nr : Nat) : ∀ i, off S (lpS S' 536 sv nr i)
  | 0 => h
  | i + 1 => off_A (off_lpS h sv nr i)
theorem off_lpE {S S' : Sx} (h : off S S') (s nr : Nat) : off S (lpE S' 536 s nr) := off_A (off_lpS h _ nr nr)
theorem off_cpS {S S' : Sx} (h : off S S') : ∀ i, off S (cpS S' 535 536 i)
  | 0 => h
  | i + 1 => off_A (off_cpS h i)
theorem off_MH {S S' : Sx} (h : off S S') {ns nr np : Nat} {ow : Nat → Nat} (hH : MH S ns nr np ow) : MH S' ns nr np ow := by
  obtain ⟨h1, h2, h3, h4⟩ := h
  obtain ⟨e0, e1, e2, l0, l1, l2, ho⟩ := hH
  refine ⟨by rw [h3 63 (by decide)]; exact e0, by rw [h3 63 (by decide)]; exact e1, by rw [h3 63 (by decide)]; exact e2, l0, l1, l2, fun r hr => ?_⟩
  rw [h3 (80 + r) (by omega)]
  exact ho r hr
theorem off_LawM {S S' : Sx} (h : off S S') {m : Nat} {wv : Nat → Nat × Nat} (hW : LawW m wv) (hM : LawM S m wv) : LawM S' m wv := by
  refine ⟨by rw [h.1]; exact hM.1, fun k hk => ?_⟩
  have := hW.1
  rw [h.2.2.1 (109 + k) (by omega)]
  exact hM.2 k hk
theorem dyS_w1 (S T : Sx) (a : Nat) : ∀ i, dyS (w1 S T) a i = w1 (dyS S a i) T
  | 0 => rfl
  | i + 1 => by
    show sA (sA (dyS (w1 S T) a i) a (16 + i) _) a (26 + i) 0 = _
    rw [dyS_w1 S T a i]
    rfl
theorem dyE_w1 (S T : Sx) (a nr : Nat) : dyE (w1 S T) a nr = w1 (dyE S a nr) T := by
  unfold dyE
  rw [dyS_w1]
  rfl
theorem lpS_w1 (S T : Sx) (a : Nat) (sv : Int32) (nr : Nat) : ∀ i, lpS (w1 S T) a sv nr i = w1 (lpS S a sv nr i) T
  | 0 => rfl
  | i + 1 => by
    show sA (lpS (w1 S T) a sv nr i) a (16 + i) (if mko (lpS (w1 S T) a sv nr i) a sv nr >>> (ix i &&& 31) &&& 1 = 1 then sa (lpS (w1 S T) a sv nr i) a (16 + i) / 2 else sa (lpS (w1 S T) a sv nr i) a (16 + i)) = _
    rw [lpS_w1 S T a sv nr i]
    rfl
theorem lpE_w1 (S T : Sx) (a s nr : Nat) : lpE (w1 S T) a s nr = w1 (lpE S a s nr) T := by
  unfold lpE
  rw [lpS_w1]
  rfl
theorem cpS_w1 (S T : Sx) (b a : Nat) : ∀ i, cpS (w1 S T) b a i = w1 (cpS S b a i) T
  | 0 => rfl
  | i + 1 => by
    show sA (cpS (w1 S T) b a i) a i (sa (cpS (w1 S T) b a i) b i) = _
    rw [cpS_w1 S T b a i]
    rfl
/-- n days go by in row a -/
def dyN (S : Sx) (a nr : Nat) : Nat → Sx
  | 0 => S
  | k + 1 => dyE (dyN S a nr k) a nr
theorem off_dyN {S S' : Sx} (h : off S S') (nr : Nat) : ∀ k, off S (dyN S' 536 nr k)
  | 0 => h
  | k + 1 => off_dyE (off_dyN h nr k) nr
/-- the model's now, laid into its trial row -/
def trS (S : Sx) : Sx := cpS (S0 S) 535 536 45
theorem off_trS (S : Sx) : off (S0 S) (trS S) := off_cpS (off_r _) 45
/-- the least k below n with p k, or -1 -/
def fst1 (p : Nat → Bool) : Nat → Int32
  | 0 => -1
  | n + 1 => if fst1 p n = -1 then (if p n = true then nI n else -1) else fst1 p n
theorem fst1_no {p : Nat → Bool} : ∀ {n : Nat}, (∀ j, j < n → ¬ p j = true) → fst1 p n = -1
  | 0, _ => rfl
  | n + 1, h => by
    show (if fst1 p n = -1 then (if p n = true then nI n else -1) else fst1 p n) = -1
    rw [if_pos (fst1_no (fun j hj => h j (by omega))), if_neg (h n (by omega))]
theorem nI_nm {k : Nat} (h : k < 2 ^ 31) : ¬ nI k = -1 := by
  intro q
  have := congrArg Int32.toInt q
  rw [nI_toInt h] at this
  have e : (-1 : Int32).toInt = -1 := rfl
  rw [e] at this
  omega
theorem fst1_at {p : Nat → Bool} {k : Nat} (hp : p k = true) (hk : k < 2 ^ 31) (h : ∀ j, j < k → ¬ p j = true) : ∀ {n : Nat}, k < n → fst1 p n = nI k
  | 0, hn => absurd hn (by omega)
  | n + 1, hn => by
    show (if fst1 p n = -1 then (if p n = true then nI n else -1) else fst1 p n) = nI k
    by_cases e : k = n
    · subst e
      rw [if_pos (fst1_no h), if_pos hp]
    · have := fst1_at hp hk h (n := n) (by omega)
      rw [this, if_neg (nI_nm hk)]
theorem r_X11_when_er {g : Gp} {S : Sx} {x y : Int32} {ns nr np : Nat} {ow : Nat → Nat} (hH : MH S ns nr np ow) (hv : ¬ ((0 ≤ x ∧ x ≤ nI nr - 1) ∧ (0 ≤ y ∧ y ≤ nI np - 1))) : RT g mX11_when 2 [.ref 59, .int x, .int y] S (some (.int 0)) (er S 1 0) := by
  refine RT_ofQ ⟨rfl, rfl⟩ (Nat.le_of_ble_eq_true rfl) (fun sz Q hQ => ?_)
  refine J_aload_n (pc := 0) dX11_when_0 rfl ?_
  refine J_iconst (pc := 1) (v := 0) dX11_when_1 (by decide) ?_
  refine J_puti (pc := 2) dX11_when_2 kc11 fl_X11_103 rfl ⟨rfl, rfl⟩ ?_
  refine J_aload_n (pc := 5) dX11_when_5 rfl ?_
  refine J_aload_n (pc := 6) dX11_when_6 rfl ?_
  refine J_iload_n (pc := 7) dX11_when_7 rfl ?_
  refine J_cvr (pc := 8) (N := mX11_isRelic) dX11_when_8 ml_X11_339 cf_X11_isRelic cv_X11_isRelic (r_X11_isRelic (S := S0 S) hH) rfl rfl (Nat.le_of_ble_eq_true rfl) (by decide) (rv_of (ci := 11) rfl rfl rfl) ?_
  refine J_ifp_eq (pc := 11) (tgt := 22) dX11_when_11 (by decide) (fun c11 => ?_) (fun c11 => ?_)
  · refine J_iconst (pc := 22) (v := 1) dX11_when_22 (by decide) ?_
    refine J_goto (pc := 23) (tgt := 27) dX11_when_23 (by decide) ?_
    refine J_iconst (pc := 27) (v := 1) dX11_when_27 (by decide) ?_
    refine J_iconst (pc := 28) (v := 0) dX11_when_28 (by decide) ?_
    refine J_cvr (pc := 29) (N := mX11_bad) dX11_when_29 ml_X11_183 cf_X11_bad cv_X11_bad (r_X11_bad_t (k := 0) rfl (by decide) (by decide) rfl) rfl rfl (Nat.le_of_ble_eq_true rfl) (by decide) (rv_of (ci := 11) rfl rfl rfl) ?_
    refine J_if_eq (pc := 32) (tgt := 37) dX11_when_32 (by decide) (fun c32 => absurd c32 (by decide)) (fun c32 => ?_)
    refine J_iconst (pc := 35) (v := 0) dX11_when_35 (by decide) ?_
    exact J_iret (pc := 36) rfl rfl rfl dX11_when_36 (rq hQ (by first | rfl | simp [bI, *] | simp_all [bI]) rfl)
  · refine J_aload_n (pc := 14) dX11_when_14 rfl ?_
    refine J_iload_n (pc := 15) dX11_when_15 rfl ?_
    refine J_cvr (pc := 16) (N := mX11_isPerson) dX11_when_16 ml_X11_342 cf_X11_isPerson cv_X11_isPerson (r_X11_isPerson (S := S0 S) hH) rfl rfl (Nat.le_of_ble_eq_true rfl) (by decide) (rv_of (ci := 11) rfl rfl rfl) ?_
    refine J_ifp_ne (pc := 19) (tgt := 26) dX11_when_19 (by decide) (fun c19 => absurd (And.intro c11 c19) hv) (fun c19 => ?_)
    refine J_iconst (pc := 22) (v := 1) dX11_when_22 (by decide) ?_
    refine J_goto (pc := 23) (tgt := 27) dX11_when_23 (by decide) ?_
    refine J_iconst (pc := 27) (v := 1) dX11_when_27 (by decide) ?_
    refine J_iconst (pc := 28) (v := 0) dX11_when_28 (by decide) ?_
    refine J_cvr (pc := 29) (N := mX11_bad) dX11_when_29 ml_X11_183 cf_X11_bad cv_X11_bad (r_X11_bad_t (k := 0) rfl (by decide) (by decide) rfl) rfl rfl (Nat.le_of_ble_eq_true rfl) (by decide) (rv_of (ci := 11) rfl rfl rfl) ?_
    refine J_if_eq (pc := 32) (tgt := 37) dX11_when_32 (by decide) (fun c32 => absurd c32 (by decide)) (fun c32 => ?_)
    refine J_iconst (pc := 35) (v := 0) dX11_when_35 (by decide) ?_
    exact J_iret (pc := 36) rfl rfl rfl dX11_when_36 (rq hQ (by first | rfl | simp [bI, *] | simp_all [bI]) rfl)
theorem r_X11_when {g : Gp} {S : Sx} {r p : Nat} {ns nr np m : Nat} {ow : Nat → Nat} {wv : Nat → Nat × Nat} (hH : MH S ns nr np ow) (hW : LawW m wv) (hM : LawM S m wv) (hr : r < nr) (hp : p < np) : RV g mX11_when 8 [.ref 59, .int (nI r), .int (nI p)] S (some (.int (fst1 (fun k => decide (sa (dyN (trS S) 536 nr k) (80 + r) 1 = sa (dyN (trS S) 536 nr k) (100 + p) 0 ∧ sa (dyN (trS S) 536 nr k) (100 + p) 1 ≤ mpw (dyN (trS S) 536 nr k) 536 nr ow m wv r)) 201))) (S0 S) := by
  refine RV_ofQ ⟨rfl, rfl⟩ (Nat.le_of_ble_eq_true rfl) (fun sz Q hQ => ?_)
  have hH' := hH
  obtain ⟨e0, e1, e2, l0, l1, l2, ho⟩ := hH'
  refine J_aload_n (pc := 0) dX11_when_0 rfl ?_
  refine J_iconst (pc := 1) (v := 0) dX11_when_1 (by decide) ?_
  refine J_puti (pc := 2) dX11_when_2 kc11 fl_X11_103 rfl ⟨rfl, rfl⟩ ?_
  refine J_aload_n (pc := 5) dX11_when_5 rfl ?_
  refine J_aload_n (pc := 6) dX11_when_6 rfl ?_
  refine J_iload_n (pc := 7) dX11_when_7 rfl ?_
  refine J_cvr (pc := 8) (N := mX11_isRelic) dX11_when_8 ml_X11_339 cf_X11_isRelic cv_X11_isRelic (r_X11_isRelic (S := S0 S) hH) rfl rfl (Nat.le_of_ble_eq_true rfl) (by decide) (rv_of (ci := 11) rfl rfl rfl) ?_
  refine J_ifp_eq (pc := 11) (tgt := 22) dX11_when_11 (by decide) (fun c11 => absurd (inx hr (by omega)) c11) (fun c11 => ?_)
  refine J_aload_n (pc := 14) dX11_when_14 rfl ?_
  refine J_iload_n (pc := 15) dX11_when_15 rfl ?_
  refine J_cvr (pc := 16) (N := mX11_isPerson) dX11_when_16 ml_X11_342 cf_X11_isPerson cv_X11_isPerson (r_X11_isPerson (S := S0 S) hH) rfl rfl (Nat.le_of_ble_eq_true rfl) (by decide) (rv_of (ci := 11) rfl rfl rfl) ?_
  refine J_ifp_ne (pc := 19) (tgt := 26) dX11_when_19 (by decide) (fun c19 => ?_) (fun c19 => absurd (inx hp (by omega)) c19)
  refine J_iconst (pc := 26) (v := 0) dX11_when_26 (by decide) ?_
  refine J_iconst (pc := 27) (v := 1) dX11_when_27 (by decide) ?_
  refine J_iconst (pc := 28) (v := 0) dX11_when_28 (by decide) ?_
  refine J_cvr (pc := 29) (N := mX11_bad) dX11_when_29 ml_X11_183 cf_X11_bad cv_X11_bad (r_X11_bad_f rfl) rfl rfl (Nat.le_of_ble_eq_true rfl) (by decide) (rv_of (ci := 11) rfl rfl rfl) ?_
  refine J_if_eq (pc := 32) (tgt := 37) dX11_when_32 (by decide) (fun c32 => ?_) (fun c32 => absurd rfl c32)
  refine J_aload_n (pc := 37) dX11_when_37 rfl ?_
  refine J_getr (pc := 38) dX11_when_38 kc11 fl_X11_73 rfl ?_
  refine J_aload_n (pc := 41) dX11_when_41 rfl ?_
  refine J_getr (pc := 42) dX11_when_42 kc11 fl_X11_76 rfl ?_
  refine J_csv (pc := 45) (N := mX11_copies) dX11_when_45 ml_X11_325 cf_X11_copies cs_X11_copies (r_X11_copies row536 row535) rfl rfl (Nat.le_of_ble_eq_true rfl) (by decide) ?_
  refine J_iconst (pc := 48) (v := 0) dX11_when_48 (by decide) ?_
  refine J_istore_n (pc := 49) dX11_when_49 (by decide) rfl ?_
  obtain ⟨pp, hpp⟩ : ∃ q : Nat → Bool, q = fun k => decide (sa (dyN (trS S) 536 nr k) (80 + r) 1 = sa (dyN (trS S) 536 nr k) (100 + p) 0 ∧ sa (dyN (trS S) 536 nr k) (100 + p) 1 ≤ mpw (dyN (trS S) 536 nr k) 536 nr ow m wv r) := ⟨_, rfl⟩
  rw [← hpp] at hQ
  show J g mX11_when 8 [] 50 [some (.ref 59), some (.int (nI r)), some (.int (nI p)), some (.int 0)] [] (hs (w1 (dyN (trS S) 536 nr 0) (trS S))) sz 0 0 Q
  refine dn_ind (n := 201) (P := fun k => (∀ j, j < k → ¬ pp j = true) → ∀ T, J g mX11_when 8 [] 50 [some (.ref 59), some (.int (nI r)), some (.int (nI p)), some (.int (ix k))] [] (hs (w1 (dyN (trS S) 536 nr k) T)) sz 0 0 Q) ?_ (fun k hi ih => ?_) 0 (Nat.zero_le _) (fun j hj => absurd hj (by omega)) _
  · intro hno T
    refine J_iload_n (pc := 50) dX11_when_50 rfl ?_
    refine J_sipush (pc := 51) (v := 200) dX11_when_51 (by decide) ?_
    refine J_icmp_gt (pc := 54) (tgt := 86) dX11_when_54 (by decide) (fun c54 => ?_) (fun c54 => absurd (show (200 : Int32) < ix 201 by rw [ix_nI]; exact nI_lt (a := 200) (by decide) (by decide)) c54)
    refine J_iconst (pc := 86) (v := -1) dX11_when_86 (by decide) ?_
    exact J_iret (pc := 87) rfl rfl rfl dX11_when_87 (rqo hQ (off_dyN (off_trS S) nr 201) (fst1_no hno).symm)
  · intro hno T
    have hof := off_dyN (off_trS S) nr k
    have hHk : MH (dyN (trS S) 536 nr k) ns nr np ow := off_MH hof hH
    have hMk : LawM (dyN (trS S) 536 nr k) m wv := off_LawM hof hW hM
    refine J_iload_n (pc := 50) dX11_when_50 rfl ?_
    refine J_sipush (pc := 51) (v := 200) dX11_when_51 (by decide) ?_
    refine J_icmp_gt (pc := 54) (tgt := 86) dX11_when_54 (by decide) (fun c54 => absurd c54 (by rw [ix_nI]; exact nI_nlt (b := k) (a := 200) (by omega) (by decide))) (fun c54 => ?_)
    refine J_aload_n (pc := 57) dX11_when_57 rfl ?_
    refine J_aload_n (pc := 58) dX11_when_58 rfl ?_
    refine J_getr (pc := 59) dX11_when_59 kc11 fl_X11_76 rfl ?_
    refine J_iload_n (pc := 62) dX11_when_62 rfl ?_
    refine J_iload_n (pc := 63) dX11_when_63 rfl ?_
    refine J_cvw (pc := 64) (N := mX11_isAble) dX11_when_64 ml_X11_292 cf_X11_isAble cv_X11_isAble (r_X11_isAble row536 hHk hW hMk hr hp) rfl rfl (Nat.le_of_ble_eq_true rfl) (by decide) (rv_of (ci := 11) rfl rfl rfl) ?_
    intro T
    refine J_ifp_eq (pc := 67) (tgt := 72) dX11_when_67 (by decide) (fun c67 => ?_) (fun c67 => ?_)
    · refine J_aload_n (pc := 72) dX11_when_72 rfl ?_
      refine J_aload_n (pc := 73) dX11_when_73 rfl ?_
      refine J_getr (pc := 74) dX11_when_74 kc11 fl_X11_76 rfl ?_
      refine J_cvv (pc := 77) (N := mX11_dayEnds) dX11_when_77 ml_X11_308 cf_X11_dayEnds cv_X11_dayEnds (r_X11_dayEnds (S := w1 (dyN (trS S) 536 nr k) T) row536 hHk) rfl rfl (Nat.le_of_ble_eq_true rfl) (by decide) (rv_of (ci := 11) rfl rfl rfl) ?_
      refine J_cg2 (dyE_w1 _ _ _ _) ?_
      refine J_iinc (pc := 80) (v := 1) dX11_when_80 rfl (by decide) rfl ?_
      refine J_goto (pc := 83) (tgt := 50) dX11_when_83 (by decide) ?_
      exact ih (fun j hj => by
        by_cases q : j = k
        · subst q; rw [hpp]; intro z; exact c67 (of_decide_eq_true z)
        · exact hno j (by omega)) T
    · refine J_iload_n (pc := 70) dX11_when_70 rfl ?_
      exact J_iret (pc := 71) rfl rfl rfl dX11_when_71 (rqo hQ hof (by rw [ix_nI]; exact (fst1_at (by rw [hpp]; exact decide_eq_true c67) (by omega) hno hi).symm))
theorem r_X11_ahead_e1 {g : Gp} {S : Sx} {x y z : Int32} {ns nr np : Nat} {ow : Nat → Nat} (hH : MH S ns nr np ow) (hv : ¬ (0 ≤ x ∧ x ≤ nI nr - 1)) : RT g mX11_ahead 2 [.ref 59, .int x, .int y, .int z] S (some (.int 0)) (er S 1 0) := by
  refine RT_ofQ ⟨rfl, rfl⟩ (Nat.le_of_ble_eq_true rfl) (fun sz Q hQ => ?_)
  refine J_aload_n (pc := 0) dX11_ahead_0 rfl ?_
  refine J_iconst (pc := 1) (v := 0) dX11_ahead_1 (by decide) ?_
  refine J_puti (pc := 2) dX11_ahead_2 kc11 fl_X11_103 rfl ⟨rfl, rfl⟩ ?_
  refine J_aload_n (pc := 5) dX11_ahead_5 rfl ?_
  refine J_aload_n (pc := 6) dX11_ahead_6 rfl ?_
  refine J_iload_n (pc := 7) dX11_ahead_7 rfl ?_
  refine J_cvr (pc := 8) (N := mX11_isRelic) dX11_ahead_8 ml_X11_339 cf_X11_isRelic cv_X11_isRelic (r_X11_isRelic (S := S0 S) hH) rfl rfl (Nat.le_of_ble_eq_true rfl) (by decide) (rv_of (ci := 11) rfl rfl rfl) ?_
  refine J_ifp_ne (pc := 11) (tgt := 18) dX11_ahead_11 (by decide) (fun c11 => absurd c11 hv) (fun c11 => ?_)
  refine J_iconst (pc := 14) (v := 1) dX11_ahead_14 (by decide) ?_
  refine J_goto (pc := 15) (tgt := 19) dX11_ahead_15 (by decide) ?_
  refine J_iconst (pc := 19) (v := 1) dX11_ahead_19 (by decide) ?_
  refine J_iconst (pc := 20) (v := 0) dX11_ahead_20 (by decide) ?_
  refine J_cvr (pc := 21) (N := mX11_bad) dX11_ahead_21 ml_X11_183 cf_X11_bad cv_X11_bad (r_X11_bad_t (k := 0) rfl (by decide) (by decide) rfl) rfl rfl (Nat.le_of_ble_eq_true rfl) (by decide) (rv_of (ci := 11) rfl rfl rfl) ?_
  refine J_if_ne (pc := 24) (tgt := 60) dX11_ahead_24 (by decide) (fun c24 => ?_) (fun c24 => absurd c24 (by decide))
  refine J_iconst (pc := 60) (v := 0) dX11_ahead_60 (by decide) ?_
  exact J_iret (pc := 61) rfl rfl rfl dX11_ahead_61 (rq hQ (by first | rfl | simp [bI, *] | simp_all [bI]) rfl)
theorem r_X11_ahead_e2 {g : Gp} {S : Sx} {x y z : Int32} {ns nr np : Nat} {ow : Nat → Nat} (hH : MH S ns nr np ow) (hv : 0 ≤ x ∧ x ≤ nI nr - 1) (hv2 : ¬ ((0 ≤ y ∧ y ≤ 99) ∧ (0 ≤ z ∧ z ≤ 1))) : RT g mX11_ahead 2 [.ref 59, .int x, .int y, .int z] S (some (.int 0)) (er S 2 1) := by
  refine RT_ofQ ⟨rfl, rfl⟩ (Nat.le_of_ble_eq_true rfl) (fun sz Q hQ => ?_)
  refine J_aload_n (pc := 0) dX11_ahead_0 rfl ?_
  refine J_iconst (pc := 1) (v := 0) dX11_ahead_1 (by decide) ?_
  refine J_puti (pc := 2) dX11_ahead_2 kc11 fl_X11_103 rfl ⟨rfl, rfl⟩ ?_
  refine J_aload_n (pc := 5) dX11_ahead_5 rfl ?_
  refine J_aload_n (pc := 6) dX11_ahead_6 rfl ?_
  refine J_iload_n (pc := 7) dX11_ahead_7 rfl ?_
  refine J_cvr (pc := 8) (N := mX11_isRelic) dX11_ahead_8 ml_X11_339 cf_X11_isRelic cv_X11_isRelic (r_X11_isRelic (S := S0 S) hH) rfl rfl (Nat.le_of_ble_eq_true rfl) (by decide) (rv_of (ci := 11) rfl rfl rfl) ?_
  refine J_ifp_ne (pc := 11) (tgt := 18) dX11_ahead_11 (by decide) (fun c11 => ?_) (fun c11 => absurd hv c11)
  refine J_iconst (pc := 18) (v := 0) dX11_ahead_18 (by decide) ?_
  refine J_iconst (pc := 19) (v := 1) dX11_ahead_19 (by decide) ?_
  refine J_iconst (pc := 20) (v := 0) dX11_ahead_20 (by decide) ?_
  refine J_cvr (pc := 21) (N := mX11_bad) dX11_ahead_21 ml_X11_183 cf_X11_bad cv_X11_bad (r_X11_bad_f rfl) rfl rfl (Nat.le_of_ble_eq_true rfl) (by decide) (rv_of (ci := 11) rfl rfl rfl) ?_
  refine J_if_ne (pc := 24) (tgt := 60) dX11_ahead_24 (by decide) (fun c24 => absurd rfl c24) (fun c24 => ?_)
  refine J_aload_n (pc := 27) dX11_ahead_27 rfl ?_
  refine J_iload_n (pc := 28) dX11_ahead_28 rfl ?_
  refine J_iconst (pc := 29) (v := 0) dX11_ahead_29 (by decide) ?_
  refine J_bipush (pc := 30) (v := 99) dX11_ahead_30 (by decide) ?_
  refine J_csr (pc := 32) (N := mX11_in) dX11_ahead_32 ml_X11_137 cf_X11_in cs_X11_in r_X11_in rfl rfl (Nat.le_of_ble_eq_true rfl) (by decide) ?_
  refine J_ifp_eq (pc := 35) (tgt := 47) dX11_ahead_35 (by decide) (fun c35 => ?_) (fun c35 => ?_)
  · refine J_iconst (pc := 47) (v := 1) dX11_ahead_47 (by decide) ?_
    refine J_goto (pc := 48) (tgt := 52) dX11_ahead_48 (by decide) ?_
    refine J_iconst (pc := 52) (v := 2) dX11_ahead_52 (by decide) ?_
    refine J_iconst (pc := 53) (v := 1) dX11_ahead_53 (by decide) ?_
    refine J_cvr (pc := 54) (N := mX11_bad) dX11_ahead_54 ml_X11_183 cf_X11_bad cv_X11_bad (r_X11_bad_t (k := 1) rfl (by decide) (by decide) rfl) rfl rfl (Nat.le_of_ble_eq_true rfl) (by decide) (rv_of (ci := 11) rfl rfl rfl) ?_
    refine J_if_eq (pc := 57) (tgt := 62) dX11_ahead_57 (by decide) (fun c57 => absurd c57 (by decide)) (fun c57 => ?_)
    refine J_iconst (pc := 60) (v := 0) dX11_ahead_60 (by decide) ?_
    exact J_iret (pc := 61) rfl rfl rfl dX11_ahead_61 (rq hQ (by first | rfl | simp [bI, *] | simp_all [bI]) rfl)
  · refine J_iload_n (pc := 38) dX11_ahead_38 rfl ?_
    refine J_iconst (pc := 39) (v := 0) dX11_ahead_39 (by decide) ?_
    refine J_iconst (pc := 40) (v := 1) dX11_ahead_40 (by decide) ?_
    refine J_csr (pc := 41) (N := mX11_in) dX11_ahead_41 ml_X11_137 cf_X11_in cs_X11_in r_X11_in rfl rfl (Nat.le_of_ble_eq_true rfl) (by decide) ?_
    refine J_ifp_ne (pc := 44) (tgt := 51) dX11_ahead_44 (by decide) (fun c44 => absurd (And.intro c35 c44) hv2) (fun c44 => ?_)
    refine J_iconst (pc := 47) (v := 1) dX11_ahead_47 (by decide) ?_
    refine J_goto (pc := 48) (tgt := 52) dX11_ahead_48 (by decide) ?_
    refine J_iconst (pc := 52) (v := 2) dX11_ahead_52 (by decide) ?_
    refine J_iconst (pc := 53) (v := 1) dX11_ahead_53 (by decide) ?_
    refine J_cvr (pc := 54) (N := mX11_bad) dX11_ahead_54 ml_X11_183 cf_X11_bad cv_X11_bad (r_X11_bad_t (k := 1) rfl (by decide) (by decide) rfl) rfl rfl (Nat.le_of_ble_eq_true rfl) (by decide) (rv_of (ci := 11) rfl rfl rfl) ?_
    refine J_if_eq (pc := 57) (tgt := 62) dX11_ahead_57 (by decide) (fun c57 => absurd c57 (by decide)) (fun c57 => ?_)
    refine J_iconst (pc := 60) (v := 0) dX11_ahead_60 (by decide) ?_
    exact J_iret (pc := 61) rfl rfl rfl dX11_ahead_61 (rq hQ (by first | rfl | simp [bI, *] | simp_all [bI]) rfl)
/-- the trial row behind a lapse of relic r's sister, if she can -/
def laS (S : Sx) (nr s : Nat) : Sx := if sa S 536 (0 + s) = 0 ∧ mko S 536 (nI s) nr ≠ 0 then lpE S 536 s nr else S
theorem off_laS {S S' : Sx} (h : off S S') (nr s : Nat) : off S (laS S' nr s) := by
  unfold laS
  split
  · exact off_lpE h s nr
  · exact h
theorem r_X11_ahead0 {g : Gp} {S : Sx} {r n : Nat} {ns nr np m : Nat} {ow : Nat → Nat} {wv : Nat → Nat × Nat} (hH : MH S ns nr np ow) (hW : LawW m wv) (hM : LawM S m wv) (hr : r < nr) (hn : n ≤ 99) : RV g mX11_ahead 8 [.ref 59, .int (nI r), .int (nI n), .int (nI 0)] S (some (.int (mpw (dyN (trS S) 536 nr n) 536 nr ow m wv r))) (S0 S) := by
  refine RV_ofQ ⟨rfl, rfl⟩ (Nat.le_of_ble_eq_true rfl) (fun sz Q hQ => ?_)
  have hH' := hH
  obtain ⟨e0, e1, e2, l0, l1, l2, ho⟩ := hH'
  obtain ⟨o1, o2⟩ := ho r hr
  refine J_aload_n (pc := 0) dX11_ahead_0 rfl ?_
  refine J_iconst (pc := 1) (v := 0) dX11_ahead_1 (by decide) ?_
  refine J_puti (pc := 2) dX11_ahead_2 kc11 fl_X11_103 rfl ⟨rfl, rfl⟩ ?_
  refine J_aload_n (pc := 5) dX11_ahead_5 rfl ?_
  refine J_aload_n (pc := 6) dX11_ahead_6 rfl ?_
  refine J_iload_n (pc := 7) dX11_ahead_7 rfl ?_
  refine J_cvr (pc := 8) (N := mX11_isRelic) dX11_ahead_8 ml_X11_339 cf_X11_isRelic cv_X11_isRelic (r_X11_isRelic (S := S0 S) hH) rfl rfl (Nat.le_of_ble_eq_true rfl) (by decide) (rv_of (ci := 11) rfl rfl rfl) ?_
  refine J_ifp_ne (pc := 11) (tgt := 18) dX11_ahead_11 (by decide) (fun c11 => ?_) (fun c11 => absurd (inx hr (by omega)) c11)
  refine J_iconst (pc := 18) (v := 0) dX11_ahead_18 (by decide) ?_
  refine J_iconst (pc := 19) (v := 1) dX11_ahead_19 (by decide) ?_
  refine J_iconst (pc := 20) (v := 0) dX11_ahead_20 (by decide) ?_
  refine J_cvr (pc := 21) (N := mX11_bad) dX11_ahead_21 ml_X11_183 cf_X11_bad cv_X11_bad (r_X11_bad_f rfl) rfl rfl (Nat.le_of_ble_eq_true rfl) (by decide) (rv_of (ci := 11) rfl rfl rfl) ?_
  refine J_if_ne (pc := 24) (tgt := 60) dX11_ahead_24 (by decide) (fun c24 => absurd rfl c24) (fun c24 => ?_)
  refine J_aload_n (pc := 27) dX11_ahead_27 rfl ?_
  refine J_iload_n (pc := 28) dX11_ahead_28 rfl ?_
  refine J_iconst (pc := 29) (v := 0) dX11_ahead_29 (by decide) ?_
  refine J_bipush (pc := 30) (v := 99) dX11_ahead_30 (by decide) ?_
  refine J_csr (pc := 32) (N := mX11_in) dX11_ahead_32 ml_X11_137 cf_X11_in cs_X11_in r_X11_in rfl rfl (Nat.le_of_ble_eq_true rfl) (by decide) ?_
  refine J_ifp_eq (pc := 35) (tgt := 47) dX11_ahead_35 (by decide) (fun c35 => absurd (inw 99 rfl hn (by decide)) c35) (fun c35 => ?_)
  refine J_iload_n (pc := 38) dX11_ahead_38 rfl ?_
  refine J_iconst (pc := 39) (v := 0) dX11_ahead_39 (by decide) ?_
  refine J_iconst (pc := 40) (v := 1) dX11_ahead_40 (by decide) ?_
  refine J_csr (pc := 41) (N := mX11_in) dX11_ahead_41 ml_X11_137 cf_X11_in cs_X11_in r_X11_in rfl rfl (Nat.le_of_ble_eq_true rfl) (by decide) ?_
  refine J_ifp_ne (pc := 44) (tgt := 51) dX11_ahead_44 (by decide) (fun c44 => ?_) (fun c44 => absurd (inw 1 rfl (show 0 ≤ 1 by decide) (by decide)) c44)
  refine J_iconst (pc := 51) (v := 0) dX11_ahead_51 (by decide) ?_
  refine J_iconst (pc := 52) (v := 2) dX11_ahead_52 (by decide) ?_
  refine J_iconst (pc := 53) (v := 1) dX11_ahead_53 (by decide) ?_
  refine J_cvr (pc := 54) (N := mX11_bad) dX11_ahead_54 ml_X11_183 cf_X11_bad cv_X11_bad (r_X11_bad_f rfl) rfl rfl (Nat.le_of_ble_eq_true rfl) (by decide) (rv_of (ci := 11) rfl rfl rfl) ?_
  refine J_if_eq (pc := 57) (tgt := 62) dX11_ahead_57 (by decide) (fun c57 => ?_) (fun c57 => absurd rfl c57)
  refine J_aload_n (pc := 62) dX11_ahead_62 rfl ?_
  refine J_getr (pc := 63) dX11_ahead_63 kc11 fl_X11_73 rfl ?_
  refine J_aload_n (pc := 66) dX11_ahead_66 rfl ?_
  refine J_getr (pc := 67) dX11_ahead_67 kc11 fl_X11_76 rfl ?_
  refine J_csv (pc := 70) (N := mX11_copies) dX11_ahead_70 ml_X11_325 cf_X11_copies cs_X11_copies (r_X11_copies row536 row535) rfl rfl (Nat.le_of_ble_eq_true rfl) (by decide) ?_
  refine J_iload_n (pc := 73) dX11_ahead_73 rfl ?_
  refine J_iconst (pc := 74) (v := 1) dX11_ahead_74 (by decide) ?_
  refine J_icmp_ne (pc := 75) (tgt := 95) dX11_ahead_75 (by decide) (fun c75 => ?_) (fun c75 => absurd c75 (by decide))
  refine J_iconst (pc := 95) (v := 0) dX11_ahead_95 (by decide) ?_
  refine J_istore (pc := 96) dX11_ahead_96 (by decide) rfl ?_
  obtain ⟨X, hX⟩ : ∃ X, X = (trS S) := ⟨_, rfl⟩
  rw [← hX] at hQ
  have hof0 : off (S0 S) X := by rw [hX]; exact off_trS S
  refine J_cg2 (S' := w1 (dyN X 536 nr 0) X) (by rw [hX]; rfl) ?_
  show J g mX11_ahead 8 [] 98 [some (.ref 59), some (.int (nI r)), some (.int (nI n)), some (.int (nI 0)), some (.int 0)] [] (hs (w1 (dyN X 536 nr 0) X)) sz 0 0 Q
  refine dn_ind (n := n) (P := fun k => ∀ T, J g mX11_ahead 8 [] 98 [some (.ref 59), some (.int (nI r)), some (.int (nI n)), some (.int (nI 0)), some (.int (ix k))] [] (hs (w1 (dyN X 536 nr k) T)) sz 0 0 Q) ?_ (fun k hi ih => ?_) 0 (Nat.zero_le _) _
  · intro T
    have hof := off_dyN hof0 nr n
    have hHk : MH (dyN X 536 nr n) ns nr np ow := off_MH hof hH
    have hMk : LawM (dyN X 536 nr n) m wv := off_LawM hof hW hM
    refine J_iload (pc := 98) dX11_ahead_98 rfl ?_
    refine J_iload_n (pc := 100) dX11_ahead_100 rfl ?_
    refine J_icmp_ge (pc := 101) (tgt := 118) dX11_ahead_101 (by decide) (fun c101 => ?_) (fun c101 => absurd (ix_ge rfl) c101)
    refine J_aload_n (pc := 118) dX11_ahead_118 rfl ?_
    refine J_aload_n (pc := 119) dX11_ahead_119 rfl ?_
    refine J_getr (pc := 120) dX11_ahead_120 kc11 fl_X11_76 rfl ?_
    refine J_iload_n (pc := 123) dX11_ahead_123 rfl ?_
    refine J_cvw (pc := 124) (N := mX11_power) dX11_ahead_124 ml_X11_289 cf_X11_power cv_X11_power (r_X11_power row536 hHk hW hMk hr) rfl rfl (Nat.le_of_ble_eq_true rfl) (by decide) (rv_of (ci := 11) rfl rfl rfl) ?_
    intro T
    exact J_iret (pc := 127) rfl rfl rfl dX11_ahead_127 (rqo hQ hof rfl)
  · intro T
    have hof := off_dyN hof0 nr k
    have hHk : MH (dyN X 536 nr k) ns nr np ow := off_MH hof hH
    refine J_iload (pc := 98) dX11_ahead_98 rfl ?_
    refine J_iload_n (pc := 100) dX11_ahead_100 rfl ?_
    refine J_icmp_ge (pc := 101) (tgt := 118) dX11_ahead_101 (by decide) (fun c101 => absurd c101 (ix_lt rfl hi (by omega))) (fun c101 => ?_)
    refine J_aload_n (pc := 104) dX11_ahead_104 rfl ?_
    refine J_aload_n (pc := 105) dX11_ahead_105 rfl ?_
    refine J_getr (pc := 106) dX11_ahead_106 kc11 fl_X11_76 rfl ?_
    refine J_cvv (pc := 109) (N := mX11_dayEnds) dX11_ahead_109 ml_X11_308 cf_X11_dayEnds cv_X11_dayEnds (r_X11_dayEnds (S := w1 (dyN X 536 nr k) T) row536 hHk) rfl rfl (Nat.le_of_ble_eq_true rfl) (by decide) (rv_of (ci := 11) rfl rfl rfl) ?_
    refine J_cg2 (dyE_w1 _ _ _ _) ?_
    refine J_iinc (pc := 112) (v := 1) dX11_ahead_112 rfl (by decide) rfl ?_
    refine J_goto (pc := 115) (tgt := 98) dX11_ahead_115 (by decide) ?_
    exact ih T
theorem r_X11_ahead1 {g : Gp} {S : Sx} {r n : Nat} {ns nr np m : Nat} {ow : Nat → Nat} {wv : Nat → Nat × Nat} (hH : MH S ns nr np ow) (hW : LawW m wv) (hM : LawM S m wv) (hr : r < nr) (hn : n ≤ 99) : RV g mX11_ahead 8 [.ref 59, .int (nI r), .int (nI n), .int (nI 1)] S (some (.int (mpw (dyN (laS (trS S) nr (ow r)) 536 nr n) 536 nr ow m wv r))) (S0 S) := by
  refine RV_ofQ ⟨rfl, rfl⟩ (Nat.le_of_ble_eq_true rfl) (fun sz Q hQ => ?_)
  have hH' := hH
  obtain ⟨e0, e1, e2, l0, l1, l2, ho⟩ := hH'
  obtain ⟨o1, o2⟩ := ho r hr
  have hHt : MH (trS S) ns nr np ow := off_MH (off_trS S) hH
  by_cases hc : sa (trS S) 536 (0 + ow r) = 0 ∧ mko (trS S) 536 (nI (ow r)) nr ≠ 0
  · refine J_aload_n (pc := 0) dX11_ahead_0 rfl ?_
    refine J_iconst (pc := 1) (v := 0) dX11_ahead_1 (by decide) ?_
    refine J_puti (pc := 2) dX11_ahead_2 kc11 fl_X11_103 rfl ⟨rfl, rfl⟩ ?_
    refine J_aload_n (pc := 5) dX11_ahead_5 rfl ?_
    refine J_aload_n (pc := 6) dX11_ahead_6 rfl ?_
    refine J_iload_n (pc := 7) dX11_ahead_7 rfl ?_
    refine J_cvr (pc := 8) (N := mX11_isRelic) dX11_ahead_8 ml_X11_339 cf_X11_isRelic cv_X11_isRelic (r_X11_isRelic (S := S0 S) hH) rfl rfl (Nat.le_of_ble_eq_true rfl) (by decide) (rv_of (ci := 11) rfl rfl rfl) ?_
    refine J_ifp_ne (pc := 11) (tgt := 18) dX11_ahead_11 (by decide) (fun c11 => ?_) (fun c11 => absurd (inx hr (by omega)) c11)
    refine J_iconst (pc := 18) (v := 0) dX11_ahead_18 (by decide) ?_
    refine J_iconst (pc := 19) (v := 1) dX11_ahead_19 (by decide) ?_
    refine J_iconst (pc := 20) (v := 0) dX11_ahead_20 (by decide) ?_
    refine J_cvr (pc := 21) (N := mX11_bad) dX11_ahead_21 ml_X11_183 cf_X11_bad cv_X11_bad (r_X11_bad_f rfl) rfl rfl (Nat.le_of_ble_eq_true rfl) (by decide) (rv_of (ci := 11) rfl rfl rfl) ?_
    refine J_if_ne (pc := 24) (tgt := 60) dX11_ahead_24 (by decide) (fun c24 => absurd rfl c24) (fun c24 => ?_)
    refine J_aload_n (pc := 27) dX11_ahead_27 rfl ?_
    refine J_iload_n (pc := 28) dX11_ahead_28 rfl ?_
    refine J_iconst (pc := 29) (v := 0) dX11_ahead_29 (by decide) ?_
    refine J_bipush (pc := 30) (v := 99) dX11_ahead_30 (by decide) ?_
    refine J_csr (pc := 32) (N := mX11_in) dX11_ahead_32 ml_X11_137 cf_X11_in cs_X11_in r_X11_in rfl rfl (Nat.le_of_ble_eq_true rfl) (by decide) ?_
    refine J_ifp_eq (pc := 35) (tgt := 47) dX11_ahead_35 (by decide) (fun c35 => absurd (inw 99 rfl hn (by decide)) c35) (fun c35 => ?_)
    refine J_iload_n (pc := 38) dX11_ahead_38 rfl ?_
    refine J_iconst (pc := 39) (v := 0) dX11_ahead_39 (by decide) ?_
    refine J_iconst (pc := 40) (v := 1) dX11_ahead_40 (by decide) ?_
    refine J_csr (pc := 41) (N := mX11_in) dX11_ahead_41 ml_X11_137 cf_X11_in cs_X11_in r_X11_in rfl rfl (Nat.le_of_ble_eq_true rfl) (by decide) ?_
    refine J_ifp_ne (pc := 44) (tgt := 51) dX11_ahead_44 (by decide) (fun c44 => ?_) (fun c44 => absurd (inw 1 rfl (show 1 ≤ 1 by decide) (by decide)) c44)
    refine J_iconst (pc := 51) (v := 0) dX11_ahead_51 (by decide) ?_
    refine J_iconst (pc := 52) (v := 2) dX11_ahead_52 (by decide) ?_
    refine J_iconst (pc := 53) (v := 1) dX11_ahead_53 (by decide) ?_
    refine J_cvr (pc := 54) (N := mX11_bad) dX11_ahead_54 ml_X11_183 cf_X11_bad cv_X11_bad (r_X11_bad_f rfl) rfl rfl (Nat.le_of_ble_eq_true rfl) (by decide) (rv_of (ci := 11) rfl rfl rfl) ?_
    refine J_if_eq (pc := 57) (tgt := 62) dX11_ahead_57 (by decide) (fun c57 => ?_) (fun c57 => absurd rfl c57)
    refine J_aload_n (pc := 62) dX11_ahead_62 rfl ?_
    refine J_getr (pc := 63) dX11_ahead_63 kc11 fl_X11_73 rfl ?_
    refine J_aload_n (pc := 66) dX11_ahead_66 rfl ?_
    refine J_getr (pc := 67) dX11_ahead_67 kc11 fl_X11_76 rfl ?_
    refine J_csv (pc := 70) (N := mX11_copies) dX11_ahead_70 ml_X11_325 cf_X11_copies cs_X11_copies (r_X11_copies row536 row535) rfl rfl (Nat.le_of_ble_eq_true rfl) (by decide) ?_
    refine J_iload_n (pc := 73) dX11_ahead_73 rfl ?_
    refine J_iconst (pc := 74) (v := 1) dX11_ahead_74 (by decide) ?_
    refine J_icmp_ne (pc := 75) (tgt := 95) dX11_ahead_75 (by decide) (fun c75 => absurd rfl c75) (fun c75 => ?_)
    refine J_aload_n (pc := 78) dX11_ahead_78 rfl ?_
    refine J_aload_n (pc := 79) dX11_ahead_79 rfl ?_
    refine J_getr (pc := 80) dX11_ahead_80 kc11 fl_X11_76 rfl ?_
    refine J_aload_n (pc := 83) dX11_ahead_83 rfl ?_
    refine J_getr (pc := 84) dX11_ahead_84 kc11 fl_X11_43 rfl ?_
    refine J_iload_n (pc := 87) dX11_ahead_87 rfl ?_
    refine J_ar1 (pc := 88) dX11_ahead_88 rfl (by first | with_reducible rfl | assumption | exact ix_nI _ | rfl) ⟨by first | decide | omega, by decide⟩ ?_
    refine J_iconst (pc := 89) (v := 0) dX11_ahead_89 (by decide) ?_
    refine J_il (pc := 90) dX11_ahead_90 (lay_relic (by omega)) (rfl : (0 : Int32) = nI 0) ⟨by first | decide | omega, by decide⟩ ?_
    refine J_t1 (y := nI (ow r)) ((congrFun ((off_trS S).2.2.1 (80 + r) (by omega)) 0).trans o1) ?_
    refine J_cvr (pc := 91) (N := mX11_lapses) dX11_ahead_91 ml_X11_302 cf_X11_lapses cv_X11_lapses (r_X11_lapses_t (S := trS S) row536 hHt o2 hc) rfl rfl (Nat.le_of_ble_eq_true rfl) (by decide) (rv_of (ci := 11) rfl rfl rfl) ?_
    refine J_pop (pc := 94) dX11_ahead_94 rfl ?_
    refine J_iconst (pc := 95) (v := 0) dX11_ahead_95 (by decide) ?_
    refine J_istore (pc := 96) dX11_ahead_96 (by decide) rfl ?_
    obtain ⟨X, hX⟩ : ∃ X, X = (laS (trS S) nr (ow r)) := ⟨_, rfl⟩
    rw [← hX] at hQ
    have hof0 : off (S0 S) X := by rw [hX]; exact off_laS (off_trS S) nr (ow r)
    refine J_cg2 (S' := w1 (dyN X 536 nr 0) X) (by rw [hX]; unfold laS; first | rw [if_pos hc]; rfl | rw [if_neg hc]; rfl) ?_
    show J g mX11_ahead 8 [] 98 [some (.ref 59), some (.int (nI r)), some (.int (nI n)), some (.int (nI 1)), some (.int 0)] [] (hs (w1 (dyN X 536 nr 0) X)) sz 0 0 Q
    refine dn_ind (n := n) (P := fun k => ∀ T, J g mX11_ahead 8 [] 98 [some (.ref 59), some (.int (nI r)), some (.int (nI n)), some (.int (nI 1)), some (.int (ix k))] [] (hs (w1 (dyN X 536 nr k) T)) sz 0 0 Q) ?_ (fun k hi ih => ?_) 0 (Nat.zero_le _) _
    · intro T
      have hof := off_dyN hof0 nr n
      have hHk : MH (dyN X 536 nr n) ns nr np ow := off_MH hof hH
      have hMk : LawM (dyN X 536 nr n) m wv := off_LawM hof hW hM
      refine J_iload (pc := 98) dX11_ahead_98 rfl ?_
      refine J_iload_n (pc := 100) dX11_ahead_100 rfl ?_
      refine J_icmp_ge (pc := 101) (tgt := 118) dX11_ahead_101 (by decide) (fun c101 => ?_) (fun c101 => absurd (ix_ge rfl) c101)
      refine J_aload_n (pc := 118) dX11_ahead_118 rfl ?_
      refine J_aload_n (pc := 119) dX11_ahead_119 rfl ?_
      refine J_getr (pc := 120) dX11_ahead_120 kc11 fl_X11_76 rfl ?_
      refine J_iload_n (pc := 123) dX11_ahead_123 rfl ?_
      refine J_cvw (pc := 124) (N := mX11_power) dX11_ahead_124 ml_X11_289 cf_X11_power cv_X11_power (r_X11_power row536 hHk hW hMk hr) rfl rfl (Nat.le_of_ble_eq_true rfl) (by decide) (rv_of (ci := 11) rfl rfl rfl) ?_
      intro T
      exact J_iret (pc := 127) rfl rfl rfl dX11_ahead_127 (rqo hQ hof rfl)
    · intro T
      have hof := off_dyN hof0 nr k
      have hHk : MH (dyN X 536 nr k) ns nr np ow := off_MH hof hH
      refine J_iload (pc := 98) dX11_ahead_98 rfl ?_
      refine J_iload_n (pc := 100) dX11_ahead_100 rfl ?_
      refine J_icmp_ge (pc := 101) (tgt := 118) dX11_ahead_101 (by decide) (fun c101 => absurd c101 (ix_lt rfl hi (by omega))) (fun c101 => ?_)
      refine J_aload_n (pc := 104) dX11_ahead_104 rfl ?_
      refine J_aload_n (pc := 105) dX11_ahead_105 rfl ?_
      refine J_getr (pc := 106) dX11_ahead_106 kc11 fl_X11_76 rfl ?_
      refine J_cvv (pc := 109) (N := mX11_dayEnds) dX11_ahead_109 ml_X11_308 cf_X11_dayEnds cv_X11_dayEnds (r_X11_dayEnds (S := w1 (dyN X 536 nr k) T) row536 hHk) rfl rfl (Nat.le_of_ble_eq_true rfl) (by decide) (rv_of (ci := 11) rfl rfl rfl) ?_
      refine J_cg2 (dyE_w1 _ _ _ _) ?_
      refine J_iinc (pc := 112) (v := 1) dX11_ahead_112 rfl (by decide) rfl ?_
      refine J_goto (pc := 115) (tgt := 98) dX11_ahead_115 (by decide) ?_
      exact ih T
  · refine J_aload_n (pc := 0) dX11_ahead_0 rfl ?_
    refine J_iconst (pc := 1) (v := 0) dX11_ahead_1 (by decide) ?_
    refine J_puti (pc := 2) dX11_ahead_2 kc11 fl_X11_103 rfl ⟨rfl, rfl⟩ ?_
    refine J_aload_n (pc := 5) dX11_ahead_5 rfl ?_
    refine J_aload_n (pc := 6) dX11_ahead_6 rfl ?_
    refine J_iload_n (pc := 7) dX11_ahead_7 rfl ?_
    refine J_cvr (pc := 8) (N := mX11_isRelic) dX11_ahead_8 ml_X11_339 cf_X11_isRelic cv_X11_isRelic (r_X11_isRelic (S := S0 S) hH) rfl rfl (Nat.le_of_ble_eq_true rfl) (by decide) (rv_of (ci := 11) rfl rfl rfl) ?_
    refine J_ifp_ne (pc := 11) (tgt := 18) dX11_ahead_11 (by decide) (fun c11 => ?_) (fun c11 => absurd (inx hr (by omega)) c11)
    refine J_iconst (pc := 18) (v := 0) dX11_ahead_18 (by decide) ?_
    refine J_iconst (pc := 19) (v := 1) dX11_ahead_19 (by decide) ?_
    refine J_iconst (pc := 20) (v := 0) dX11_ahead_20 (by decide) ?_
    refine J_cvr (pc := 21) (N := mX11_bad) dX11_ahead_21 ml_X11_183 cf_X11_bad cv_X11_bad (r_X11_bad_f rfl) rfl rfl (Nat.le_of_ble_eq_true rfl) (by decide) (rv_of (ci := 11) rfl rfl rfl) ?_
    refine J_if_ne (pc := 24) (tgt := 60) dX11_ahead_24 (by decide) (fun c24 => absurd rfl c24) (fun c24 => ?_)
    refine J_aload_n (pc := 27) dX11_ahead_27 rfl ?_
    refine J_iload_n (pc := 28) dX11_ahead_28 rfl ?_
    refine J_iconst (pc := 29) (v := 0) dX11_ahead_29 (by decide) ?_
    refine J_bipush (pc := 30) (v := 99) dX11_ahead_30 (by decide) ?_
    refine J_csr (pc := 32) (N := mX11_in) dX11_ahead_32 ml_X11_137 cf_X11_in cs_X11_in r_X11_in rfl rfl (Nat.le_of_ble_eq_true rfl) (by decide) ?_
    refine J_ifp_eq (pc := 35) (tgt := 47) dX11_ahead_35 (by decide) (fun c35 => absurd (inw 99 rfl hn (by decide)) c35) (fun c35 => ?_)
    refine J_iload_n (pc := 38) dX11_ahead_38 rfl ?_
    refine J_iconst (pc := 39) (v := 0) dX11_ahead_39 (by decide) ?_
    refine J_iconst (pc := 40) (v := 1) dX11_ahead_40 (by decide) ?_
    refine J_csr (pc := 41) (N := mX11_in) dX11_ahead_41 ml_X11_137 cf_X11_in cs_X11_in r_X11_in rfl rfl (Nat.le_of_ble_eq_true rfl) (by decide) ?_
    refine J_ifp_ne (pc := 44) (tgt := 51) dX11_ahead_44 (by decide) (fun c44 => ?_) (fun c44 => absurd (inw 1 rfl (show 1 ≤ 1 by decide) (by decide)) c44)
    refine J_iconst (pc := 51) (v := 0) dX11_ahead_51 (by decide) ?_
    refine J_iconst (pc := 52) (v := 2) dX11_ahead_52 (by decide) ?_
    refine J_iconst (pc := 53) (v := 1) dX11_ahead_53 (by decide) ?_
    refine J_cvr (pc := 54) (N := mX11_bad) dX11_ahead_54 ml_X11_183 cf_X11_bad cv_X11_bad (r_X11_bad_f rfl) rfl rfl (Nat.le_of_ble_eq_true rfl) (by decide) (rv_of (ci := 11) rfl rfl rfl) ?_
    refine J_if_eq (pc := 57) (tgt := 62) dX11_ahead_57 (by decide) (fun c57 => ?_) (fun c57 => absurd rfl c57)
    refine J_aload_n (pc := 62) dX11_ahead_62 rfl ?_
    refine J_getr (pc := 63) dX11_ahead_63 kc11 fl_X11_73 rfl ?_
    refine J_aload_n (pc := 66) dX11_ahead_66 rfl ?_
    refine J_getr (pc := 67) dX11_ahead_67 kc11 fl_X11_76 rfl ?_
    refine J_csv (pc := 70) (N := mX11_copies) dX11_ahead_70 ml_X11_325 cf_X11_copies cs_X11_copies (r_X11_copies row536 row535) rfl rfl (Nat.le_of_ble_eq_true rfl) (by decide) ?_
    refine J_iload_n (pc := 73) dX11_ahead_73 rfl ?_
    refine J_iconst (pc := 74) (v := 1) dX11_ahead_74 (by decide) ?_
    refine J_icmp_ne (pc := 75) (tgt := 95) dX11_ahead_75 (by decide) (fun c75 => absurd rfl c75) (fun c75 => ?_)
    refine J_aload_n (pc := 78) dX11_ahead_78 rfl ?_
    refine J_aload_n (pc := 79) dX11_ahead_79 rfl ?_
    refine J_getr (pc := 80) dX11_ahead_80 kc11 fl_X11_76 rfl ?_
    refine J_aload_n (pc := 83) dX11_ahead_83 rfl ?_
    refine J_getr (pc := 84) dX11_ahead_84 kc11 fl_X11_43 rfl ?_
    refine J_iload_n (pc := 87) dX11_ahead_87 rfl ?_
    refine J_ar1 (pc := 88) dX11_ahead_88 rfl (by first | with_reducible rfl | assumption | exact ix_nI _ | rfl) ⟨by first | decide | omega, by decide⟩ ?_
    refine J_iconst (pc := 89) (v := 0) dX11_ahead_89 (by decide) ?_
    refine J_il (pc := 90) dX11_ahead_90 (lay_relic (by omega)) (rfl : (0 : Int32) = nI 0) ⟨by first | decide | omega, by decide⟩ ?_
    refine J_t1 (y := nI (ow r)) ((congrFun ((off_trS S).2.2.1 (80 + r) (by omega)) 0).trans o1) ?_
    refine J_cvr (pc := 91) (N := mX11_lapses) dX11_ahead_91 ml_X11_302 cf_X11_lapses cv_X11_lapses (r_X11_lapses_f (S := trS S) row536 hHt o2 hc) rfl rfl (Nat.le_of_ble_eq_true rfl) (by decide) (rv_of (ci := 11) rfl rfl rfl) ?_
    refine J_pop (pc := 94) dX11_ahead_94 rfl ?_
    refine J_iconst (pc := 95) (v := 0) dX11_ahead_95 (by decide) ?_
    refine J_istore (pc := 96) dX11_ahead_96 (by decide) rfl ?_
    obtain ⟨X, hX⟩ : ∃ X, X = (laS (trS S) nr (ow r)) := ⟨_, rfl⟩
    rw [← hX] at hQ
    have hof0 : off (S0 S) X := by rw [hX]; exact off_laS (off_trS S) nr (ow r)
    refine J_cg2 (S' := w1 (dyN X 536 nr 0) X) (by rw [hX]; unfold laS; first | rw [if_pos hc]; rfl | rw [if_neg hc]; rfl) ?_
    show J g mX11_ahead 8 [] 98 [some (.ref 59), some (.int (nI r)), some (.int (nI n)), some (.int (nI 1)), some (.int 0)] [] (hs (w1 (dyN X 536 nr 0) X)) sz 0 0 Q
    refine dn_ind (n := n) (P := fun k => ∀ T, J g mX11_ahead 8 [] 98 [some (.ref 59), some (.int (nI r)), some (.int (nI n)), some (.int (nI 1)), some (.int (ix k))] [] (hs (w1 (dyN X 536 nr k) T)) sz 0 0 Q) ?_ (fun k hi ih => ?_) 0 (Nat.zero_le _) _
    · intro T
      have hof := off_dyN hof0 nr n
      have hHk : MH (dyN X 536 nr n) ns nr np ow := off_MH hof hH
      have hMk : LawM (dyN X 536 nr n) m wv := off_LawM hof hW hM
      refine J_iload (pc := 98) dX11_ahead_98 rfl ?_
      refine J_iload_n (pc := 100) dX11_ahead_100 rfl ?_
      refine J_icmp_ge (pc := 101) (tgt := 118) dX11_ahead_101 (by decide) (fun c101 => ?_) (fun c101 => absurd (ix_ge rfl) c101)
      refine J_aload_n (pc := 118) dX11_ahead_118 rfl ?_
      refine J_aload_n (pc := 119) dX11_ahead_119 rfl ?_
      refine J_getr (pc := 120) dX11_ahead_120 kc11 fl_X11_76 rfl ?_
      refine J_iload_n (pc := 123) dX11_ahead_123 rfl ?_
      refine J_cvw (pc := 124) (N := mX11_power) dX11_ahead_124 ml_X11_289 cf_X11_power cv_X11_power (r_X11_power row536 hHk hW hMk hr) rfl rfl (Nat.le_of_ble_eq_true rfl) (by decide) (rv_of (ci := 11) rfl rfl rfl) ?_
      intro T
      exact J_iret (pc := 127) rfl rfl rfl dX11_ahead_127 (rqo hQ hof rfl)
    · intro T
      have hof := off_dyN hof0 nr k
      have hHk : MH (dyN X 536 nr k) ns nr np ow := off_MH hof hH
      refine J_iload (pc := 98) dX11_ahead_98 rfl ?_
      refine J_iload_n (pc := 100) dX11_ahead_100 rfl ?_
      refine J_icmp_ge (pc := 101) (tgt := 118) dX11_ahead_101 (by decide) (fun c101 => absurd c101 (ix_lt rfl hi (by omega))) (fun c101 => ?_)
      refine J_aload_n (pc := 104) dX11_ahead_104 rfl ?_
      refine J_aload_n (pc := 105) dX11_ahead_105 rfl ?_
      refine J_getr (pc := 106) dX11_ahead_106 kc11 fl_X11_76 rfl ?_
      refine J_cvv (pc := 109) (N := mX11_dayEnds) dX11_ahead_109 ml_X11_308 cf_X11_dayEnds cv_X11_dayEnds (r_X11_dayEnds (S := w1 (dyN X 536 nr k) T) row536 hHk) rfl rfl (Nat.le_of_ble_eq_true rfl) (by decide) (rv_of (ci := 11) rfl rfl rfl) ?_
      refine J_cg2 (dyE_w1 _ _ _ _) ?_
      refine J_iinc (pc := 112) (v := 1) dX11_ahead_112 rfl (by decide) rfl ?_
      refine J_goto (pc := 115) (tgt := 98) dX11_ahead_115 (by decide) ?_
      exact ih T
