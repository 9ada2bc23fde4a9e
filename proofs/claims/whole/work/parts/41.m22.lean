/-! ===== contracts by what holds behind them ===== -/
def RI (g : Gp) (N : Mt) (d : Nat) (as : List Value) (S : Sx) (P : Int32 → Sx → Prop) : Prop := ∀ sz, NT g N d 0 0 as (hs S) sz (fun o h sz' => ∃ x X, o = .inl (some (.int x)) ∧ h = hs X ∧ P x X ∧ sz' = sz)
def RU (g : Gp) (N : Mt) (d : Nat) (as : List Value) (S : Sx) (P : Sx → Prop) : Prop := ∀ sz, NT g N d 0 0 as (hs S) sz (fun o h sz' => ∃ X, o = .inl none ∧ h = hs X ∧ P X ∧ sz' = sz)
section JI
variable {g : Gp} {M N : Mt} {d d' n idx a pc : Nat} {tb : List ExceptionTableEntry} {ls : List (Option Value)} {st as rest : List Value} {S : Sx} {sz kc ks : Nat} {Q : Po} {host : String} {P : Int32 → Sx → Prop} {U : Sx → Prop}
theorem RI_ofQ (hy : plainName N.1.cls = true ∧ isLaw N = false) (hn : (lsl as).length ≤ N.2.2.1) (k : ∀ sz Q, (∀ x X, P x X → Q (.inl (some (.int x))) (hs X) sz) → J g N d [] 0 (lsp N.2.2.1 (lsl as)) [] (hs S) sz 0 0 Q) : RI g N d as S P := fun sz => NT_of_CT (fun E h sz q => by obtain ⟨x, X, q, _⟩ := q; cases q) (CT_of_J hy hn (J_forget (lsp_at _ _) (k sz _ (fun x X hX => ⟨x, X, rfl, rfl, hX, rfl⟩))))
theorem RU_ofQ (hy : plainName N.1.cls = true ∧ isLaw N = false) (hn : (lsl as).length ≤ N.2.2.1) (k : ∀ sz Q, (∀ X, U X → Q (.inl none) (hs X) sz) → J g N d [] 0 (lsp N.2.2.1 (lsl as)) [] (hs S) sz 0 0 Q) : RU g N d as S U := fun sz => NT_of_CT (fun E h sz q => by obtain ⟨X, q, _⟩ := q; cases q) (CT_of_J hy hn (J_forget (lsp_at _ _) (k sz _ (fun X hX => ⟨X, rfl, rfl, hX, rfl⟩))))
theorem J_csI (hd : decode M.2.1 pc = .ok (.invokestatic idx, 3)) (hm : InT (.methodLink M.1.cls idx N.1)) (hc : CF N n) (hv : InT (.static N.1)) (hT : RI g N d' as S P) (hst : st = as.reverse ++ rest) (hn : as.length = n) (hcat : (rest.map fun v => v.category).sum ≤ 8) (hdd : d' + 1 ≤ d) (kr : ∀ x X, P x X → J g M d tb (pc + 3) ls (.int x :: rest) (hs X) sz kc ks Q) : J g M d tb pc ls st (hs S) sz kc ks Q := by
  refine J_cs hd hm hc hv (hT sz) hst hn hcat hdd (Nat.zero_le _) (Nat.zero_le _) (fun v h' sz' hq => ?_)
  obtain ⟨x, X, h1, rfl, h2, rfl⟩ := hq
  cases h1
  exact kr x X h2
theorem J_csU (hd : decode M.2.1 pc = .ok (.invokestatic idx, 3)) (hm : InT (.methodLink M.1.cls idx N.1)) (hc : CF N n) (hv : InT (.static N.1)) (hT : RU g N d' as S U) (hst : st = as.reverse ++ rest) (hn : as.length = n) (hcat : (rest.map fun v => v.category).sum ≤ 8) (hdd : d' + 1 ≤ d) (kr : ∀ X, U X → J g M d tb (pc + 3) ls rest (hs X) sz kc ks Q) : J g M d tb pc ls st (hs S) sz kc ks Q := by
  refine J_cs hd hm hc hv (hT sz) hst hn hcat hdd (Nat.zero_le _) (Nat.zero_le _) (fun v h' sz' hq => ?_)
  obtain ⟨X, h1, rfl, h2, rfl⟩ := hq
  cases h1
  exact kr X h2
theorem J_cvI (hd : decode M.2.1 pc = .ok (.invokevirtual idx, 3)) (hm : InT (.methodLink M.1.cls idx N.1)) (hc : CF N n) (hv : CFv N) (hT : RI g N d' (.ref a :: as) S P) (hst : st = as.reverse ++ .ref a :: rest) (hn : as.length = n) (hcat : (rest.map fun v => v.category).sum ≤ 8) (hdd : d' + 1 ≤ d) (hrv : Rv (hs S) a N.1.cls) (kr : ∀ x X, P x X → J g M d tb (pc + 3) ls (.int x :: rest) (hs X) sz kc ks Q) : J g M d tb pc ls st (hs S) sz kc ks Q := by
  refine J_cv hd hm hc hv (hT sz) hst hn hcat hdd (Nat.zero_le _) (Nat.zero_le _) hrv (fun v h' sz' hq => ?_)
  obtain ⟨x, X, h1, rfl, h2, rfl⟩ := hq
  cases h1
  exact kr x X h2
theorem J_cvU (hd : decode M.2.1 pc = .ok (.invokevirtual idx, 3)) (hm : InT (.methodLink M.1.cls idx N.1)) (hc : CF N n) (hv : CFv N) (hT : RU g N d' (.ref a :: as) S U) (hst : st = as.reverse ++ .ref a :: rest) (hn : as.length = n) (hcat : (rest.map fun v => v.category).sum ≤ 8) (hdd : d' + 1 ≤ d) (hrv : Rv (hs S) a N.1.cls) (kr : ∀ X, U X → J g M d tb (pc + 3) ls rest (hs X) sz kc ks Q) : J g M d tb pc ls st (hs S) sz kc ks Q := by
  refine J_cv hd hm hc hv (hT sz) hst hn hcat hdd (Nat.zero_le _) (Nat.zero_le _) hrv (fun v h' sz' hq => ?_)
  obtain ⟨X, h1, rfl, h2, rfl⟩ := hq
  cases h1
  exact kr X h2
theorem J_cnI (hd : decode M.2.1 pc = .ok (.invokevirtual idx, 3)) (hm : InN (.methodLinkNest M.1.cls idx N.1 host)) (hc : CF N n) (hv : CFv N) (hT : RI g N d' (.ref a :: as) S P) (hst : st = as.reverse ++ .ref a :: rest) (hn : as.length = n) (hcat : (rest.map fun v => v.category).sum ≤ 8) (hdd : d' + 1 ≤ d) (hrv : Rv (hs S) a N.1.cls) (kr : ∀ x X, P x X → J g M d tb (pc + 3) ls (.int x :: rest) (hs X) sz kc ks Q) : J g M d tb pc ls st (hs S) sz kc ks Q := by
  refine J_cvN hd hm hc hv (hT sz) hst hn hcat hdd (Nat.zero_le _) (Nat.zero_le _) hrv (fun v h' sz' hq => ?_)
  obtain ⟨x, X, h1, rfl, h2, rfl⟩ := hq
  cases h1
  exact kr x X h2
theorem J_cnU (hd : decode M.2.1 pc = .ok (.invokevirtual idx, 3)) (hm : InN (.methodLinkNest M.1.cls idx N.1 host)) (hc : CF N n) (hv : CFv N) (hT : RU g N d' (.ref a :: as) S U) (hst : st = as.reverse ++ .ref a :: rest) (hn : as.length = n) (hcat : (rest.map fun v => v.category).sum ≤ 8) (hdd : d' + 1 ≤ d) (hrv : Rv (hs S) a N.1.cls) (kr : ∀ X, U X → J g M d tb (pc + 3) ls rest (hs X) sz kc ks Q) : J g M d tb pc ls st (hs S) sz kc ks Q := by
  refine J_cvN hd hm hc hv (hT sz) hst hn hcat hdd (Nat.zero_le _) (Nat.zero_le _) hrv (fun v h' sz' hq => ?_)
  obtain ⟨X, h1, rfl, h2, rfl⟩ := hq
  cases h1
  exact kr X h2
end JI
/-! ===== whom to cure by which: the model's search ===== -/
abbrev MS : Type := (Nat → Int32) × (Nat → Int32) × Int32
def msS (S : Sx) (s : MS) : Sx := (up2 (sf S) 59 46 s.2.2, sp S, fun a => if a = 558 then s.1 else if a = 559 then s.2.1 else sa S a, sl S, sx S)
theorem ms_by (S : Sx) (s : MS) (p : Nat) (v : Int32) : sA (msS S s) 558 p v = msS S (upd s.1 p v, s.2) := by
  have : up2 (fun a => if a = 558 then s.1 else if a = 559 then s.2.1 else sa S a) 558 p v = fun a => if a = 558 then upd s.1 p v else if a = 559 then s.2.1 else sa S a := by
    funext b y
    by_cases hb : b = 558
    · subst hb; simp [up2, upd]
    · simp [up2, hb]
  show (_, _, up2 (fun a => if a = 558 then s.1 else if a = 559 then s.2.1 else sa S a) 558 p v, _, _) = _
  rw [this]
  rfl
theorem ms_best (S : Sx) (s : MS) (p : Nat) (v : Int32) : sA (msS S s) 559 p v = msS S (s.1, upd s.2.1 p v, s.2.2) := by
  have : up2 (fun a => if a = 558 then s.1 else if a = 559 then s.2.1 else sa S a) 559 p v = fun a => if a = 558 then s.1 else if a = 559 then upd s.2.1 p v else sa S a := by
    funext b y
    by_cases hb : b = 559
    · subst hb; simp [up2, upd]
    · simp [up2, hb]
  show (_, _, up2 (fun a => if a = 558 then s.1 else if a = 559 then s.2.1 else sa S a) 559 p v, _, _) = _
  rw [this]
  rfl
theorem up2_up2 (f : Nat → Nat → Int32) (a k : Nat) (v w : Int32) : up2 (up2 f a k v) a k w = up2 f a k w := by
  funext x y
  unfold up2
  by_cases h : x = a
  · by_cases h2 : y = k
    · simp [h, h2]
    · simp [h, h2]
  · simp [h]
theorem ms_most (S : Sx) (s : MS) (v : Int32) : sF (msS S s) 59 46 v = msS S (s.1, s.2.1, v) := by
  show (up2 (up2 (sf S) 59 46 s.2.2) 59 46 v, _, _, _, _) = _
  rw [up2_up2]
  rfl
def bcp (b c : Nat → Int32) (i : Nat) : Nat → Int32 := fun k => if k < i then b k else c k
theorem bcp_s (b c : Nat → Int32) (i : Nat) : upd (bcp b c i) i (b i) = bcp b c (i + 1) := by
  funext k
  unfold upd bcp
  by_cases h : k = i
  · subst h; simp
  · by_cases h2 : k < i
    · simp [h, h2, Nat.lt_succ_of_lt h2]
    · simp [h, h2, show ¬ k < i + 1 by omega]
def mlo (f : Nat → MS → MS) : Nat → MS → MS
  | 0, s => s
  | r + 1, s => f r (mlo f r s)
def mfr (al cu : Nat → Int32) (nr : Nat) : Nat → Nat → Int32 → Int32 → MS → MS
  | 0, p, _, gv, s => if gv + cu p ≤ s.2.2 then s else (s.1, bcp s.1 s.2.1 p, gv)
  | n + 1, p, tk, gv, s => if gv + cu p ≤ s.2.2 then s else
      let s1 := mlo (fun r s => if bit tk (ix r) = true then s else if bit (al p) (ix r) = true then mfr al cu nr n (p + 1) (tk ||| (1 <<< (ix r &&& 31))) (gv + 1) (upd s.1 p (ix r), s.2) else s) nr s
      mfr al cu nr n (p + 1) tk gv (upd s1.1 p (-1), s1.2)
theorem bit_iff (x k : Int32) : bit x k = true ↔ x >>> (k &&& 31) &&& 1 = 1 := by unfold bit; exact decide_eq_true_iff
theorem r_X11_matchesFrom {g : Gp} {S : Sx} {ns nr np : Nat} {ow : Nat → Nat} (hH : MH S ns nr np ow) : ∀ (n p : Nat) (tk gv : Int32) (s : MS), p + n = np → RT g mX11_matchesFrom (1 + n) [.ref 59, .int (nI p), .int tk, .int gv] (msS S s) none (msS S (mfr (sa S 560) (sa S 561) nr n p tk gv s)) := by
  intro n
  induction n with
  | zero =>
    intro p tk gv s hpn
    have hp : p = np := by omega
    obtain ⟨e0, e1, e2, l0, l1, l2, ho⟩ := hH
    refine RT_ofQ ⟨rfl, rfl⟩ (Nat.le_of_ble_eq_true rfl) (fun sz Q hQ => ?_)
    refine J_iload_n (pc := 0) dX11_matchesFrom_0 rfl ?_
    refine J_aload_n (pc := 1) dX11_matchesFrom_1 rfl ?_
    refine J_getr (pc := 2) dX11_matchesFrom_2 kc11 fl_X11_94 rfl ?_
    refine J_iload_n (pc := 5) dX11_matchesFrom_5 rfl ?_
    refine J_il (pc := 6) dX11_matchesFrom_6 (by first | rfl | assumption) rfl ⟨by first | decide | omega, by decide⟩ ?_
    refine J_iadd (pc := 7) dX11_matchesFrom_7 ?_
    refine J_aload_n (pc := 8) dX11_matchesFrom_8 rfl ?_
    refine J_geti (pc := 9) dX11_matchesFrom_9 kc11 fl_X11_345 rfl ?_
    refine J_icmp_gt (pc := 12) (tgt := 16) dX11_matchesFrom_12 (by decide) (fun c12 => ?_) (fun c12 => ?_)
    · refine J_iload_n (pc := 16) dX11_matchesFrom_16 rfl ?_
      refine J_aload_n (pc := 17) dX11_matchesFrom_17 rfl ?_
      refine J_getr (pc := 18) dX11_matchesFrom_18 kc11 fl_X11_23 rfl ?_
      refine J_iconst (pc := 21) (v := 2) dX11_matchesFrom_21 (by decide) ?_
      refine J_il (pc := 22) dX11_matchesFrom_22 (by first | rfl | assumption) (rfl : (2 : Int32) = nI 2) ⟨by first | decide | omega, by decide⟩ ?_
      refine J_icmp_ne (pc := 23) (tgt := 61) dX11_matchesFrom_23 (by decide) (fun c23 => absurd (show nI p = sa S 63 2 by rw [e2, hp]) c23) (fun c23 => ?_)
      refine J_aload_n (pc := 26) dX11_matchesFrom_26 rfl ?_
      refine J_iload_n (pc := 27) dX11_matchesFrom_27 rfl ?_
      refine J_puti (pc := 28) dX11_matchesFrom_28 kc11 fl_X11_345 rfl ⟨rfl, rfl⟩ ?_
      refine J_cg2 (ms_most S s gv) ?_
      refine J_iconst (pc := 31) (v := 0) dX11_matchesFrom_31 (by decide) ?_
      refine J_istore (pc := 32) dX11_matchesFrom_32 (by decide) rfl ?_
      show J g mX11_matchesFrom (1 + 0) [] 34 [some (.ref 59), some (.int (nI p)), some (.int tk), some (.int gv), some (.int (ix 0))] [] (hs (msS S (s.1, bcp s.1 s.2.1 0, gv))) sz 0 0 Q
      refine dn_ind (n := p) (P := fun i => J g mX11_matchesFrom (1 + 0) [] 34 [some (.ref 59), some (.int (nI p)), some (.int tk), some (.int gv), some (.int (ix i))] [] (hs (msS S (s.1, bcp s.1 s.2.1 i, gv))) sz 0 0 Q) ?_ (fun i hi ih => ?_) 0 (Nat.zero_le _)
      · refine J_iload (pc := 34) dX11_matchesFrom_34 rfl ?_
        refine J_iload_n (pc := 36) dX11_matchesFrom_36 rfl ?_
        refine J_icmp_ge (pc := 37) (tgt := 60) dX11_matchesFrom_37 (by decide) (fun c37 => ?_) (fun c37 => absurd (ix_ge rfl) c37)
        exact J_ret (pc := 60) rfl rfl dX11_matchesFrom_60 (rqv hQ (congrArg (msS S) (if_neg (Int32.not_le.mpr c12)).symm))
      · refine J_iload (pc := 34) dX11_matchesFrom_34 rfl ?_
        refine J_iload_n (pc := 36) dX11_matchesFrom_36 rfl ?_
        refine J_icmp_ge (pc := 37) (tgt := 60) dX11_matchesFrom_37 (by decide) (fun c37 => absurd c37 (ix_lt rfl hi (by omega))) (fun c37 => ?_)
        refine J_aload_n (pc := 40) dX11_matchesFrom_40 rfl ?_
        refine J_getr (pc := 41) dX11_matchesFrom_41 kc11 fl_X11_88 rfl ?_
        refine J_iload (pc := 44) dX11_matchesFrom_44 rfl ?_
        refine J_aload_n (pc := 46) dX11_matchesFrom_46 rfl ?_
        refine J_getr (pc := 47) dX11_matchesFrom_47 kc11 fl_X11_85 rfl ?_
        refine J_iload (pc := 50) dX11_matchesFrom_50 rfl ?_
        refine J_il (pc := 52) dX11_matchesFrom_52 (by first | rfl | assumption) (by first | with_reducible rfl | assumption | exact ix_nI _ | rfl) ⟨by first | decide | omega, by decide⟩ ?_
        refine J_is (pc := 53) dX11_matchesFrom_53 (by first | rfl | assumption) (by first | with_reducible rfl | assumption | exact ix_nI _ | rfl) ⟨by first | decide | omega, by decide⟩ ?_
        refine J_cg2 (S' := msS S (s.1, bcp s.1 s.2.1 (i + 1), gv)) ((ms_best S _ _ _).trans (congrArg (fun z => msS S (s.1, z, gv)) (bcp_s s.1 s.2.1 i))) ?_
        refine J_iinc (pc := 54) (v := 1) dX11_matchesFrom_54 rfl (by decide) rfl ?_
        refine J_goto (pc := 57) (tgt := 34) dX11_matchesFrom_57 (by decide) ?_
        exact ih
    · exact J_ret (pc := 15) rfl rfl dX11_matchesFrom_15 (rqv hQ (congrArg (msS S) (if_pos (Int32.not_lt.mp c12)).symm))
  | succ n ih =>
    intro p tk gv s hpn
    have hH' := hH
    obtain ⟨e0, e1, e2, l0, l1, l2, ho⟩ := hH'
    refine RT_ofQ ⟨rfl, rfl⟩ (Nat.le_of_ble_eq_true rfl) (fun sz Q hQ => ?_)
    refine J_iload_n (pc := 0) dX11_matchesFrom_0 rfl ?_
    refine J_aload_n (pc := 1) dX11_matchesFrom_1 rfl ?_
    refine J_getr (pc := 2) dX11_matchesFrom_2 kc11 fl_X11_94 rfl ?_
    refine J_iload_n (pc := 5) dX11_matchesFrom_5 rfl ?_
    refine J_il (pc := 6) dX11_matchesFrom_6 (by first | rfl | assumption) rfl ⟨by omega, by decide⟩ ?_
    refine J_iadd (pc := 7) dX11_matchesFrom_7 ?_
    refine J_aload_n (pc := 8) dX11_matchesFrom_8 rfl ?_
    refine J_geti (pc := 9) dX11_matchesFrom_9 kc11 fl_X11_345 rfl ?_
    refine J_icmp_gt (pc := 12) (tgt := 16) dX11_matchesFrom_12 (by decide) (fun c12 => ?_) (fun c12 => ?_)
    · refine J_iload_n (pc := 16) dX11_matchesFrom_16 rfl ?_
      refine J_aload_n (pc := 17) dX11_matchesFrom_17 rfl ?_
      refine J_getr (pc := 18) dX11_matchesFrom_18 kc11 fl_X11_23 rfl ?_
      refine J_iconst (pc := 21) (v := 2) dX11_matchesFrom_21 (by decide) ?_
      refine J_il (pc := 22) dX11_matchesFrom_22 (by first | rfl | assumption) (rfl : (2 : Int32) = nI 2) ⟨by first | decide | omega, by decide⟩ ?_
      refine J_icmp_ne (pc := 23) (tgt := 61) dX11_matchesFrom_23 (by decide) (fun c23 => ?_) (fun c23 => absurd c23 (show ¬ nI p = sa S 63 2 by rw [e2]; exact fun q => by have := (nI_eq (by omega) (by omega)).mp q; omega))
      refine J_iconst (pc := 61) (v := 0) dX11_matchesFrom_61 (by decide) ?_
      refine J_istore (pc := 62) dX11_matchesFrom_62 (by decide) rfl ?_
      obtain ⟨F, hF⟩ : ∃ F, F = (fun r s => if bit tk (ix r) = true then s else if bit (sa S 560 p) (ix r) = true then mfr (sa S 560) (sa S 561) nr n (p + 1) (tk ||| (1 <<< (ix r &&& 31))) (gv + 1) (upd s.1 p (ix r), s.2) else s) := ⟨_, rfl⟩
      have hF2 : mfr (sa S 560) (sa S 561) nr (n + 1) p tk gv s = mfr (sa S 560) (sa S 561) nr n (p + 1) tk gv (upd (mlo F nr s).1 p (-1), (mlo F nr s).2) := by rw [hF]; exact if_neg (Int32.not_le.mpr c12)
      show J g mX11_matchesFrom (1 + (n + 1)) [] 64 [some (.ref 59), some (.int (nI p)), some (.int tk), some (.int gv), some (.int (ix 0))] [] (hs (msS S (mlo F 0 s))) sz 0 0 Q
      refine dn_ind (n := nr) (P := fun i => J g mX11_matchesFrom (1 + (n + 1)) [] 64 [some (.ref 59), some (.int (nI p)), some (.int tk), some (.int gv), some (.int (ix i))] [] (hs (msS S (mlo F i s))) sz 0 0 Q) ?_ (fun i hi ih2 => ?_) 0 (Nat.zero_le _)
      · rw [hF2] at hQ
        refine J_iload (pc := 64) dX11_matchesFrom_64 rfl ?_
        refine J_aload_n (pc := 66) dX11_matchesFrom_66 rfl ?_
        refine J_getr (pc := 67) dX11_matchesFrom_67 kc11 fl_X11_23 rfl ?_
        refine J_iconst (pc := 70) (v := 1) dX11_matchesFrom_70 (by decide) ?_
        refine J_il (pc := 71) dX11_matchesFrom_71 (by first | rfl | assumption) (rfl : (1 : Int32) = nI 1) ⟨by first | decide | omega, by decide⟩ ?_
        refine J_icmp_ge (pc := 72) (tgt := 131) dX11_matchesFrom_72 (by decide) (fun c72 => ?_) (fun c72 => absurd (ix_ge e1) c72)
        refine J_aload_n (pc := 131) dX11_matchesFrom_131 rfl ?_
        refine J_getr (pc := 132) dX11_matchesFrom_132 kc11 fl_X11_85 rfl ?_
        refine J_iload_n (pc := 135) dX11_matchesFrom_135 rfl ?_
        refine J_iconst (pc := 136) (v := -1) dX11_matchesFrom_136 (by decide) ?_
        refine J_is (pc := 137) dX11_matchesFrom_137 (by first | rfl | assumption) rfl ⟨by first | decide | omega, by decide⟩ ?_
        refine J_cg2 (ms_by S _ p _) ?_
        refine J_aload_n (pc := 138) dX11_matchesFrom_138 rfl ?_
        refine J_iload_n (pc := 139) dX11_matchesFrom_139 rfl ?_
        refine J_iconst (pc := 140) (v := 1) dX11_matchesFrom_140 (by decide) ?_
        refine J_iadd (pc := 141) dX11_matchesFrom_141 ?_
        refine J_t1 (nI_1 p) ?_
        refine J_iload_n (pc := 142) dX11_matchesFrom_142 rfl ?_
        refine J_iload_n (pc := 143) dX11_matchesFrom_143 rfl ?_
        refine J_cvv (pc := 144) (N := mX11_matchesFrom) dX11_matchesFrom_144 ml_X11_348 cf_X11_matchesFrom cv_X11_matchesFrom (ih (p + 1) tk gv _ (by omega)) rfl rfl (Nat.le_of_ble_eq_true rfl) (by omega) (rv_of (ci := 11) rfl rfl rfl) ?_
        exact J_ret (pc := 147) rfl rfl dX11_matchesFrom_147 (rqv hQ rfl)
      · obtain ⟨z, hz⟩ : ∃ z, z = mlo F i s := ⟨_, rfl⟩
        have hz1 : mlo F (i + 1) s = F i z := by rw [hz]; rfl
        rw [hz1] at ih2
        rw [← hz]
        refine J_iload (pc := 64) dX11_matchesFrom_64 rfl ?_
        refine J_aload_n (pc := 66) dX11_matchesFrom_66 rfl ?_
        refine J_getr (pc := 67) dX11_matchesFrom_67 kc11 fl_X11_23 rfl ?_
        refine J_iconst (pc := 70) (v := 1) dX11_matchesFrom_70 (by decide) ?_
        refine J_il (pc := 71) dX11_matchesFrom_71 (by first | rfl | assumption) (rfl : (1 : Int32) = nI 1) ⟨by first | decide | omega, by decide⟩ ?_
        refine J_icmp_ge (pc := 72) (tgt := 131) dX11_matchesFrom_72 (by decide) (fun c72 => absurd c72 (ix_lt e1 hi (by omega))) (fun c72 => ?_)
        refine J_iload_n (pc := 75) dX11_matchesFrom_75 rfl ?_
        refine J_iload (pc := 76) dX11_matchesFrom_76 rfl ?_
        refine J_csr (pc := 78) (N := mX11_has) dX11_matchesFrom_78 ml_X11_263 cf_X11_has cs_X11_has (r_X11_has (S := msS S z)) rfl rfl (Nat.le_of_ble_eq_true rfl) (by omega) ?_
        refine J_ifp_ne (pc := 81) (tgt := 125) dX11_matchesFrom_81 (by decide) (fun c81 => ?_) (fun c81 => ?_)
        · have hs1 : F i z = z := by rw [hF]; exact if_pos ((bit_iff _ _).mpr c81)
          rw [hs1] at ih2
          refine J_iinc (pc := 125) (v := 1) dX11_matchesFrom_125 rfl (by decide) rfl ?_
          refine J_goto (pc := 128) (tgt := 64) dX11_matchesFrom_128 (by decide) ?_
          exact ih2
        · refine J_aload_n (pc := 84) dX11_matchesFrom_84 rfl ?_
          refine J_getr (pc := 85) dX11_matchesFrom_85 kc11 fl_X11_91 rfl ?_
          refine J_iload_n (pc := 88) dX11_matchesFrom_88 rfl ?_
          refine J_il (pc := 89) dX11_matchesFrom_89 (by first | rfl | assumption) rfl ⟨by first | decide | omega, by decide⟩ ?_
          refine J_iload (pc := 90) dX11_matchesFrom_90 rfl ?_
          refine J_csr (pc := 92) (N := mX11_has) dX11_matchesFrom_92 ml_X11_263 cf_X11_has cs_X11_has (r_X11_has (S := msS S z)) rfl rfl (Nat.le_of_ble_eq_true rfl) (by omega) ?_
          refine J_ifp_ne (pc := 95) (tgt := 101) dX11_matchesFrom_95 (by decide) (fun c95 => ?_) (fun c95 => ?_)
          · have hs1 : F i z = mfr (sa S 560) (sa S 561) nr n (p + 1) (tk ||| (1 <<< (ix i &&& 31))) (gv + 1) (upd z.1 p (ix i), z.2) := by rw [hF]; exact (if_neg (fun q => c81 ((bit_iff _ _).mp q))).trans (if_pos ((bit_iff _ _).mpr c95))
            refine J_aload_n (pc := 101) dX11_matchesFrom_101 rfl ?_
            refine J_getr (pc := 102) dX11_matchesFrom_102 kc11 fl_X11_85 rfl ?_
            refine J_iload_n (pc := 105) dX11_matchesFrom_105 rfl ?_
            refine J_iload (pc := 106) dX11_matchesFrom_106 rfl ?_
            refine J_is (pc := 108) dX11_matchesFrom_108 (by first | rfl | assumption) rfl ⟨by first | decide | omega, by decide⟩ ?_
            refine J_cg2 (ms_by S _ p _) ?_
            refine J_aload_n (pc := 109) dX11_matchesFrom_109 rfl ?_
            refine J_iload_n (pc := 110) dX11_matchesFrom_110 rfl ?_
            refine J_iconst (pc := 111) (v := 1) dX11_matchesFrom_111 (by decide) ?_
            refine J_iadd (pc := 112) dX11_matchesFrom_112 ?_
            refine J_iload_n (pc := 113) dX11_matchesFrom_113 rfl ?_
            refine J_iconst (pc := 114) (v := 1) dX11_matchesFrom_114 (by decide) ?_
            refine J_iload (pc := 115) dX11_matchesFrom_115 rfl ?_
            refine J_ishl (pc := 117) dX11_matchesFrom_117 ?_
            refine J_ior (pc := 118) dX11_matchesFrom_118 ?_
            refine J_iload_n (pc := 119) dX11_matchesFrom_119 rfl ?_
            refine J_iconst (pc := 120) (v := 1) dX11_matchesFrom_120 (by decide) ?_
            refine J_iadd (pc := 121) dX11_matchesFrom_121 ?_
            refine J_st (st' := [.int (gv + 1), .int (tk ||| (1 <<< (ix i &&& 31))), .int (nI (p + 1)), .ref 59]) (by rw [nI_1]) ?_
            refine J_cvv (pc := 122) (N := mX11_matchesFrom) dX11_matchesFrom_122 ml_X11_348 cf_X11_matchesFrom cv_X11_matchesFrom (ih (p + 1) _ _ _ (by omega)) rfl rfl (Nat.le_of_ble_eq_true rfl) (by omega) (rv_of (ci := 11) rfl rfl rfl) ?_
            rw [hs1] at ih2
            refine J_iinc (pc := 125) (v := 1) dX11_matchesFrom_125 rfl (by decide) rfl ?_
            refine J_goto (pc := 128) (tgt := 64) dX11_matchesFrom_128 (by decide) ?_
            exact ih2
          · have hs1 : F i z = z := by rw [hF]; exact (if_neg (fun q => c81 ((bit_iff _ _).mp q))).trans (if_neg (fun q => c95 ((bit_iff _ _).mp q)))
            refine J_goto (pc := 98) (tgt := 125) dX11_matchesFrom_98 (by decide) ?_
            rw [hs1] at ih2
            refine J_iinc (pc := 125) (v := 1) dX11_matchesFrom_125 rfl (by decide) rfl ?_
            refine J_goto (pc := 128) (tgt := 64) dX11_matchesFrom_128 (by decide) ?_
            exact ih2
    · exact J_ret (pc := 15) rfl rfl dX11_matchesFrom_15 (rqv hQ (congrArg (msS S) (if_pos (Int32.not_lt.mp c12)).symm))
