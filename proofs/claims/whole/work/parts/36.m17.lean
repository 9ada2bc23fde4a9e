/-! ===== what holds nothing from one call to the next ===== -/
def scF (a k : Nat) : Bool := (a == 59 && (k == 39 || k == 40 || k == 41 || k == 46 || k == 47 || k == 48)) || a == 23 || (a == 24 && k == 3) || a == 28 || (a == 18 && 4 ≤ k)
def scA (a : Nat) : Bool := a == 536 || (558 ≤ a && a ≤ 561) || a == 25 || a == 26 || a == 27 || a == 30 || (19 ≤ a && a ≤ 22)
def off3 (S S' : Sx) : Prop := (∀ a k, scF a k = false → sf S' a k = sf S a k) ∧ (∀ a k, a ≠ 29 → sp S' a k = sp S a k) ∧ (∀ a, scA a = false → sa S' a = sa S a) ∧ sl S' = sl S
theorem off3_r (S : Sx) : off3 S S := ⟨fun _ _ _ => rfl, fun _ _ _ => rfl, fun _ _ => rfl, rfl⟩
theorem off3_t {S S' S'' : Sx} (h : off3 S S') (h' : off3 S' S'') : off3 S S'' := ⟨fun a k q => (h'.1 a k q).trans (h.1 a k q), fun a k q => (h'.2.1 a k q).trans (h.2.1 a k q), fun a q => (h'.2.2.1 a q).trans (h.2.2.1 a q), h'.2.2.2.trans h.2.2.2⟩
theorem off3_w1 {S S' T : Sx} (h : off3 S S') : off3 S (w1 S' T) := h
theorem off3_A {S S' : Sx} (h : off3 S S') {a k : Nat} {v : Int32} (ha : scA a = true) : off3 S (sA S' a k v) := ⟨h.1, h.2.1, fun b hb => (up2_o (fun q => by subst q; rw [ha] at hb; cases hb)).trans (h.2.2.1 b hb), h.2.2.2⟩
theorem off3_F {S S' : Sx} (h : off3 S S') {a k : Nat} {v : Int32} (ha : scF a k = true) : off3 S (sF S' a k v) := by
  refine ⟨fun b j hb => ?_, h.2.1, h.2.2⟩
  have : sf (sF S' a k v) b j = sf S' b j := by
    show up2 (sf S') a k v b j = _
    unfold up2
    by_cases q : b = a
    · by_cases q2 : j = k
      · subst q; subst q2; rw [ha] at hb; cases hb
      · rw [if_pos q, if_neg q2]
    · rw [if_neg q]
  rw [this]
  exact h.1 b j hb
theorem off_3 {S S' : Sx} (h : off S S') : off3 S S' := ⟨fun a k _ => by rw [h.1], fun a k _ => by rw [h.2.1], fun a ha => h.2.2.1 a (fun q => by subst q; exact absurd ha (by decide)), h.2.2.2⟩
/-- a contract that answers v and leaves S', but for what holds nothing -/
def RE (g : Gp) (N : Mt) (d : Nat) (as : List Value) (S : Sx) (v : Option Value) (S' : Sx) : Prop := ∀ sz, NT g N d 0 0 as (hs S) sz (fun o h sz' => o = .inl v ∧ (∃ X, h = hs X ∧ off3 S' X) ∧ sz' = sz)
theorem RE_ofQ {g : Gp} {N : Mt} {d : Nat} {as : List Value} {S S' : Sx} {v : Option Value} (hy : plainName N.1.cls = true ∧ isLaw N = false) (hn : (lsl as).length ≤ N.2.2.1) (k : ∀ sz Q, (∀ X, off3 S' X → Q (.inl v) (hs X) sz) → J g N d [] 0 (lsp N.2.2.1 (lsl as)) [] (hs S) sz 0 0 Q) : RE g N d as S v S' := fun sz => NT_of_CT (fun E h sz q => by cases q.1) (CT_of_J hy hn (J_forget (lsp_at _ _) (k sz _ (fun X hX => ⟨rfl, ⟨X, rfl, hX⟩, rfl⟩))))
theorem rqe {Q : Po} {sz : Nat} {x y : Int32} {S X : Sx} (hQ : ∀ X, off3 S X → Q (.inl (some (.int y))) (hs X) sz) (h : off3 S X) (h1 : x = y) : Q (.inl (some (.int x))) (hs X) sz := by rw [h1]; exact hQ X h
theorem off3_MH {S S' : Sx} (h : off3 S S') {ns nr np : Nat} {ow : Nat → Nat} (hH : MH S ns nr np ow) : MH S' ns nr np ow := by
  obtain ⟨e0, e1, e2, l0, l1, l2, ho⟩ := hH
  refine ⟨by rw [h.2.2.1 63 rfl]; exact e0, by rw [h.2.2.1 63 rfl]; exact e1, by rw [h.2.2.1 63 rfl]; exact e2, l0, l1, l2, fun r hr => ?_⟩
  have : scA (80 + r) = false := by
    have : ∀ r, r < 10 → scA (80 + r) = false := by decide
    exact this r (by omega)
  rw [h.2.2.1 (80 + r) this]
  exact ho r hr
theorem off3_LawM {S S' : Sx} (h : off3 S S') {m : Nat} {wv : Nat → Nat × Nat} (hW : LawW m wv) (hM : LawM S m wv) : LawM S' m wv := by
  refine ⟨by rw [h.1 59 21 rfl]; exact hM.1, fun k hk => ?_⟩
  have hm := hW.1
  have : scA (109 + k) = false := by
    have : ∀ r, r < 160 → scA (109 + r) = false := by decide +kernel
    exact this k (by omega)
  rw [h.2.2.1 (109 + k) this]
  exact hM.2 k hk
def hpI (ab : Nat → Bool) (p : Nat) (b : Int32) : Nat → Int32
  | 0 => b
  | r + 1 => hpI ab p b r &&& (if ab r = true then (1 <<< (ix p &&& 31)) ^^^ (-1) else hpI ab p b r)
def hpO (ab : Nat → Nat → Bool) (nr : Nat) (b : Int32) : Nat → Int32
  | 0 => b
  | p + 1 => hpI (ab p) p (hpO ab nr b p) nr
theorem r_X11_hopeless_er {g : Gp} {S : Sx} {x : Int32} (hv : ¬ (0 ≤ x ∧ x ≤ 99)) : RT g mX11_hopeless 2 [.ref 59, .int x] S (some (.int 0)) (er S 1 1) := by
  refine RT_ofQ ⟨rfl, rfl⟩ (Nat.le_of_ble_eq_true rfl) (fun sz Q hQ => ?_)
  refine J_aload_n (pc := 0) dX11_hopeless_0 rfl ?_
  refine J_iconst (pc := 1) (v := 0) dX11_hopeless_1 (by decide) ?_
  refine J_puti (pc := 2) dX11_hopeless_2 kc11 fl_X11_103 rfl ⟨rfl, rfl⟩ ?_
  refine J_aload_n (pc := 5) dX11_hopeless_5 rfl ?_
  refine J_iload_n (pc := 6) dX11_hopeless_6 rfl ?_
  refine J_iconst (pc := 7) (v := 0) dX11_hopeless_7 (by decide) ?_
  refine J_bipush (pc := 8) (v := 99) dX11_hopeless_8 (by decide) ?_
  refine J_csr (pc := 10) (N := mX11_in) dX11_hopeless_10 ml_X11_137 cf_X11_in cs_X11_in r_X11_in rfl rfl (Nat.le_of_ble_eq_true rfl) (by decide) ?_
  refine J_ifp_ne (pc := 13) (tgt := 20) dX11_hopeless_13 (by decide) (fun c13 => absurd c13 hv) (fun c13 => ?_)
  refine J_iconst (pc := 16) (v := 1) dX11_hopeless_16 (by decide) ?_
  refine J_goto (pc := 17) (tgt := 21) dX11_hopeless_17 (by decide) ?_
  refine J_iconst (pc := 21) (v := 1) dX11_hopeless_21 (by decide) ?_
  refine J_iconst (pc := 22) (v := 1) dX11_hopeless_22 (by decide) ?_
  refine J_cvr (pc := 23) (N := mX11_bad) dX11_hopeless_23 ml_X11_183 cf_X11_bad cv_X11_bad (r_X11_bad_t (k := 1) rfl (by decide) (by decide) rfl) rfl rfl (Nat.le_of_ble_eq_true rfl) (by decide) (rv_of (ci := 11) rfl rfl rfl) ?_
  refine J_if_eq (pc := 26) (tgt := 31) dX11_hopeless_26 (by decide) (fun c26 => absurd c26 (by decide)) (fun c26 => ?_)
  refine J_iconst (pc := 29) (v := 0) dX11_hopeless_29 (by decide) ?_
  exact J_iret (pc := 30) rfl rfl rfl dX11_hopeless_30 (rq hQ (by first | rfl | simp [bI, *] | simp_all [bI]) rfl)
theorem r_X11_hopeless {g : Gp} {S : Sx} {n : Nat} {ns nr np m : Nat} {ow : Nat → Nat} {wv : Nat → Nat × Nat} (hH : MH S ns nr np ow) (hW : LawW m wv) (hM : LawM S m wv) (hn : n ≤ 99) : RE g mX11_hopeless 8 [.ref 59, .int (nI n)] S (some (.int (hpO (fun p r => decide (sa (dyN (trS S) 536 nr n) (80 + r) 1 = sa (dyN (trS S) 536 nr n) (100 + p) 0 ∧ sa (dyN (trS S) 536 nr n) (100 + p) 1 ≤ mpw (dyN (trS S) 536 nr n) 536 nr ow m wv r)) nr (1 <<< (nI np &&& 31) - 1 - mcu S 535 np) np))) (S0 S) := by
  refine RE_ofQ ⟨rfl, rfl⟩ (Nat.le_of_ble_eq_true rfl) (fun sz Q hQ => ?_)
  have hH' := hH
  obtain ⟨e0, e1, e2, l0, l1, l2, ho⟩ := hH'
  refine J_aload_n (pc := 0) dX11_hopeless_0 rfl ?_
  refine J_iconst (pc := 1) (v := 0) dX11_hopeless_1 (by decide) ?_
  refine J_puti (pc := 2) dX11_hopeless_2 kc11 fl_X11_103 rfl ⟨rfl, rfl⟩ ?_
  refine J_aload_n (pc := 5) dX11_hopeless_5 rfl ?_
  refine J_iload_n (pc := 6) dX11_hopeless_6 rfl ?_
  refine J_iconst (pc := 7) (v := 0) dX11_hopeless_7 (by decide) ?_
  refine J_bipush (pc := 8) (v := 99) dX11_hopeless_8 (by decide) ?_
  refine J_csr (pc := 10) (N := mX11_in) dX11_hopeless_10 ml_X11_137 cf_X11_in cs_X11_in r_X11_in rfl rfl (Nat.le_of_ble_eq_true rfl) (by decide) ?_
  refine J_ifp_ne (pc := 13) (tgt := 20) dX11_hopeless_13 (by decide) (fun c13 => ?_) (fun c13 => absurd (inw 99 rfl hn (by decide)) c13)
  refine J_iconst (pc := 20) (v := 0) dX11_hopeless_20 (by decide) ?_
  refine J_iconst (pc := 21) (v := 1) dX11_hopeless_21 (by decide) ?_
  refine J_iconst (pc := 22) (v := 1) dX11_hopeless_22 (by decide) ?_
  refine J_cvr (pc := 23) (N := mX11_bad) dX11_hopeless_23 ml_X11_183 cf_X11_bad cv_X11_bad (r_X11_bad_f rfl) rfl rfl (Nat.le_of_ble_eq_true rfl) (by decide) (rv_of (ci := 11) rfl rfl rfl) ?_
  refine J_if_eq (pc := 26) (tgt := 31) dX11_hopeless_26 (by decide) (fun c26 => ?_) (fun c26 => absurd rfl c26)
  refine J_aload_n (pc := 31) dX11_hopeless_31 rfl ?_
  refine J_getr (pc := 32) dX11_hopeless_32 kc11 fl_X11_73 rfl ?_
  refine J_aload_n (pc := 35) dX11_hopeless_35 rfl ?_
  refine J_getr (pc := 36) dX11_hopeless_36 kc11 fl_X11_76 rfl ?_
  refine J_csv (pc := 39) (N := mX11_copies) dX11_hopeless_39 ml_X11_325 cf_X11_copies cs_X11_copies (r_X11_copies row536 row535) rfl rfl (Nat.le_of_ble_eq_true rfl) (by decide) ?_
  refine J_iconst (pc := 42) (v := 0) dX11_hopeless_42 (by decide) ?_
  refine J_istore_n (pc := 43) dX11_hopeless_43 (by decide) rfl ?_
  have hmc : mcu (trS S) 535 np = mcu S 535 np := by unfold mcu; rw [(off_trS S).2.2.1 535 (by decide)]; rfl
  obtain ⟨ab, hab⟩ : ∃ q, q = (fun p r => decide (sa (dyN (trS S) 536 nr n) (80 + r) 1 = sa (dyN (trS S) 536 nr n) (100 + p) 0 ∧ sa (dyN (trS S) 536 nr n) (100 + p) 1 ≤ mpw (dyN (trS S) 536 nr n) 536 nr ow m wv r)) := ⟨_, rfl⟩
  rw [← hab] at hQ
  have hof0 := off_trS S
  obtain ⟨X, hX⟩ : ∃ X, X = trS S := ⟨_, rfl⟩
  rw [← hX] at hab hof0 hmc
  show J g mX11_hopeless 8 [] 44 [some (.ref 59), some (.int (nI n)), some (.int 0), none, none] [] (hs (trS S)) sz 0 0 Q
  rw [← hX]
  show J g mX11_hopeless 8 [] 44 [some (.ref 59), some (.int (nI n)), some (.int 0), none, none] [] (hs (w1 (dyN X 536 nr 0) X)) sz 0 0 Q
  refine dn_ind (n := n) (P := fun k => ∀ T, J g mX11_hopeless 8 [] 44 [some (.ref 59), some (.int (nI n)), some (.int (ix k)), none, none] [] (hs (w1 (dyN X 536 nr k) T)) sz 0 0 Q) ?_ (fun k hi ih => ?_) 0 (Nat.zero_le _) _
  · intro T
    have hof := off_dyN hof0 nr n
    have hHk : MH (dyN X 536 nr n) ns nr np ow := off_MH hof hH
    have hMk : LawM (dyN X 536 nr n) m wv := off_LawM hof hW hM
    have hmc2 : mcu (dyN X 536 nr n) 535 np = mcu S 535 np := by unfold mcu; rw [hof.2.2.1 535 (by decide)]; rfl
    obtain ⟨Y, hY⟩ : ∃ Y, Y = dyN X 536 nr n := ⟨_, rfl⟩
    rw [← hY] at hof hHk hMk hmc2 hab ⊢
    obtain ⟨b0, hb0⟩ : ∃ b, b = (1 <<< (nI np &&& 31) - 1 - mcu S 535 np) := ⟨_, rfl⟩
    rw [← hb0] at hQ
    refine J_iload_n (pc := 44) dX11_hopeless_44 rfl ?_
    refine J_iload_n (pc := 45) dX11_hopeless_45 rfl ?_
    refine J_icmp_ge (pc := 46) (tgt := 63) dX11_hopeless_46 (by decide) (fun c46 => ?_) (fun c46 => absurd (ix_ge rfl) c46)
    refine J_iconst (pc := 63) (v := 1) dX11_hopeless_63 (by decide) ?_
    refine J_aload_n (pc := 64) dX11_hopeless_64 rfl ?_
    refine J_getr (pc := 65) dX11_hopeless_65 kc11 fl_X11_23 rfl ?_
    refine J_iconst (pc := 68) (v := 2) dX11_hopeless_68 (by decide) ?_
    refine J_il (pc := 69) dX11_hopeless_69 (by first | rfl | assumption) (rfl : (2 : Int32) = nI 2) ⟨by first | decide | omega, by decide⟩ ?_
    refine J_t1 hHk.2.2.1 ?_
    refine J_ishl (pc := 70) dX11_hopeless_70 ?_
    refine J_iconst (pc := 71) (v := 1) dX11_hopeless_71 (by decide) ?_
    refine J_isub (pc := 72) dX11_hopeless_72 ?_
    refine J_aload_n (pc := 73) dX11_hopeless_73 rfl ?_
    refine J_aload_n (pc := 74) dX11_hopeless_74 rfl ?_
    refine J_getr (pc := 75) dX11_hopeless_75 kc11 fl_X11_73 rfl ?_
    refine J_cvr (pc := 78) (N := mX11_curedIn) dX11_hopeless_78 ml_X11_329 cf_X11_curedIn cv_X11_curedIn (r_X11_curedIn (S := w1 Y T) row535 hHk) rfl rfl (Nat.le_of_ble_eq_true rfl) (by decide) (rv_of (ci := 11) rfl rfl rfl) ?_
    refine J_isub (pc := 81) dX11_hopeless_81 ?_
    refine J_t1 (y := b0) (by rw [hb0, ← hmc2]; rfl) ?_
    refine J_istore_n (pc := 82) dX11_hopeless_82 (by decide) rfl ?_
    refine J_iconst (pc := 83) (v := 0) dX11_hopeless_83 (by decide) ?_
    refine J_istore_n (pc := 84) dX11_hopeless_84 (by decide) rfl ?_
    show J g mX11_hopeless 8 [] 85 [some (.ref 59), some (.int (nI n)), some (.int (hpO ab nr b0 0)), some (.int (ix 0)), none] [] (hs (w1 Y T)) sz 0 0 Q
    refine dn_ind (n := np) (P := fun i => ∀ T, J g mX11_hopeless 8 [] 85 [some (.ref 59), some (.int (nI n)), some (.int (hpO ab nr b0 i)), some (.int (ix i)), none] [] (hs (w1 Y T)) sz 0 0 Q) ?_ (fun i hi ih => ?_) 0 (Nat.zero_le _) _
    · intro T
      refine J_iload_n (pc := 85) dX11_hopeless_85 rfl ?_
      refine J_aload_n (pc := 86) dX11_hopeless_86 rfl ?_
      refine J_getr (pc := 87) dX11_hopeless_87 kc11 fl_X11_23 rfl ?_
      refine J_iconst (pc := 90) (v := 2) dX11_hopeless_90 (by decide) ?_
      refine J_il (pc := 91) dX11_hopeless_91 (by first | rfl | assumption) (rfl : (2 : Int32) = nI 2) ⟨by first | decide | omega, by decide⟩ ?_
      refine J_icmp_ge (pc := 92) (tgt := 147) dX11_hopeless_92 (by decide) (fun c92 => ?_) (fun c92 => absurd (ix_ge hHk.2.2.1) c92)
      refine J_iload_n (pc := 147) dX11_hopeless_147 rfl ?_
      exact J_iret (pc := 148) rfl rfl rfl dX11_hopeless_148 (rqe hQ (off3_w1 (off_3 hof)) rfl)
    · intro T
      refine J_iload_n (pc := 85) dX11_hopeless_85 rfl ?_
      refine J_aload_n (pc := 86) dX11_hopeless_86 rfl ?_
      refine J_getr (pc := 87) dX11_hopeless_87 kc11 fl_X11_23 rfl ?_
      refine J_iconst (pc := 90) (v := 2) dX11_hopeless_90 (by decide) ?_
      refine J_il (pc := 91) dX11_hopeless_91 (by first | rfl | assumption) (rfl : (2 : Int32) = nI 2) ⟨by first | decide | omega, by decide⟩ ?_
      refine J_icmp_ge (pc := 92) (tgt := 147) dX11_hopeless_92 (by decide) (fun c92 => absurd c92 (ix_lt hHk.2.2.1 hi (by omega))) (fun c92 => ?_)
      refine J_iconst (pc := 95) (v := 0) dX11_hopeless_95 (by decide) ?_
      refine J_istore (pc := 96) dX11_hopeless_96 (by decide) rfl ?_
      have ih0 := ih
      clear ih
      show J g mX11_hopeless 8 [] 98 [some (.ref 59), some (.int (nI n)), some (.int (hpI (ab i) i (hpO ab nr b0 i) 0)), some (.int (ix i)), some (.int (ix 0))] [] (hs (w1 Y T)) sz 0 0 Q
      refine dn_ind (n := nr) (P := fun j => ∀ T, J g mX11_hopeless 8 [] 98 [some (.ref 59), some (.int (nI n)), some (.int (hpI (ab i) i (hpO ab nr b0 i) j)), some (.int (ix i)), some (.int (ix j))] [] (hs (w1 Y T)) sz 0 0 Q) ?_ (fun j hj ih => ?_) 0 (Nat.zero_le _) _
      · intro T
        refine J_iload (pc := 98) dX11_hopeless_98 rfl ?_
        refine J_aload_n (pc := 100) dX11_hopeless_100 rfl ?_
        refine J_getr (pc := 101) dX11_hopeless_101 kc11 fl_X11_23 rfl ?_
        refine J_iconst (pc := 104) (v := 1) dX11_hopeless_104 (by decide) ?_
        refine J_il (pc := 105) dX11_hopeless_105 (by first | rfl | assumption) (rfl : (1 : Int32) = nI 1) ⟨by first | decide | omega, by decide⟩ ?_
        refine J_icmp_ge (pc := 106) (tgt := 141) dX11_hopeless_106 (by decide) (fun c106 => ?_) (fun c106 => absurd (ix_ge hHk.2.1) c106)
        refine J_iinc (pc := 141) (v := 1) dX11_hopeless_141 rfl (by decide) rfl ?_
        refine J_goto (pc := 144) (tgt := 85) dX11_hopeless_144 (by decide) ?_
        refine J_forget (fun k u hu => ?_) (ih0 T)
        rcases k with _ | _ | _ | _ | _ | k <;> first | exact hu | (simp at hu)
      · intro T
        refine J_iload (pc := 98) dX11_hopeless_98 rfl ?_
        refine J_aload_n (pc := 100) dX11_hopeless_100 rfl ?_
        refine J_getr (pc := 101) dX11_hopeless_101 kc11 fl_X11_23 rfl ?_
        refine J_iconst (pc := 104) (v := 1) dX11_hopeless_104 (by decide) ?_
        refine J_il (pc := 105) dX11_hopeless_105 (by first | rfl | assumption) (rfl : (1 : Int32) = nI 1) ⟨by first | decide | omega, by decide⟩ ?_
        refine J_icmp_ge (pc := 106) (tgt := 141) dX11_hopeless_106 (by decide) (fun c106 => absurd c106 (ix_lt hHk.2.1 hj (by omega))) (fun c106 => ?_)
        refine J_iload_n (pc := 109) dX11_hopeless_109 rfl ?_
        refine J_aload_n (pc := 110) dX11_hopeless_110 rfl ?_
        refine J_aload_n (pc := 111) dX11_hopeless_111 rfl ?_
        refine J_getr (pc := 112) dX11_hopeless_112 kc11 fl_X11_76 rfl ?_
        refine J_iload (pc := 115) dX11_hopeless_115 rfl ?_
        refine J_iload_n (pc := 117) dX11_hopeless_117 rfl ?_
        refine J_st (st' := [.int (nI i), .int (nI j), .ref 536, .ref 59, .int (hpI (ab i) i (hpO ab nr b0 i) j)]) (by rw [ix_nI, ix_nI]) ?_
        refine J_cvw (pc := 118) (N := mX11_isAble) dX11_hopeless_118 ml_X11_292 cf_X11_isAble cv_X11_isAble (r_X11_isAble (S := Y) (r := j) (p := i) row536 hHk hW hMk hj hi) rfl rfl (Nat.le_of_ble_eq_true rfl) (by decide) (rv_of (ci := 11) rfl rfl rfl) ?_
        intro T
        refine J_ifp_eq (pc := 121) (tgt := 132) dX11_hopeless_121 (by decide) (fun c121 => ?_) (fun c121 => ?_)
        · refine J_iload_n (pc := 132) dX11_hopeless_132 rfl ?_
          refine J_iand (pc := 133) dX11_hopeless_133 ?_
          refine J_t1 (y := hpI (ab i) i (hpO ab nr b0 i) (j + 1)) (by show _ = hpI (ab i) i (hpO ab nr b0 i) j &&& _; first | exact congrArg _ (if_pos (show ab i j = true by rw [hab]; exact decide_eq_true c121)).symm | exact congrArg _ (if_neg (show ¬ ab i j = true by rw [hab]; exact fun z => c121 (of_decide_eq_true z))).symm) ?_
          refine J_istore_n (pc := 134) dX11_hopeless_134 (by decide) rfl ?_
          refine J_iinc (pc := 135) (v := 1) dX11_hopeless_135 rfl (by decide) rfl ?_
          refine J_goto (pc := 138) (tgt := 98) dX11_hopeless_138 (by decide) ?_
          exact ih T
        · refine J_iconst (pc := 124) (v := 1) dX11_hopeless_124 (by decide) ?_
          refine J_iload_n (pc := 125) dX11_hopeless_125 rfl ?_
          refine J_ishl (pc := 126) dX11_hopeless_126 ?_
          refine J_iconst (pc := 127) (v := -1) dX11_hopeless_127 (by decide) ?_
          refine J_ixor (pc := 128) dX11_hopeless_128 ?_
          refine J_goto (pc := 129) (tgt := 133) dX11_hopeless_129 (by decide) ?_
          refine J_iand (pc := 133) dX11_hopeless_133 ?_
          refine J_t1 (y := hpI (ab i) i (hpO ab nr b0 i) (j + 1)) (by show _ = hpI (ab i) i (hpO ab nr b0 i) j &&& _; first | exact congrArg _ (if_pos (show ab i j = true by rw [hab]; exact decide_eq_true c121)).symm | exact congrArg _ (if_neg (show ¬ ab i j = true by rw [hab]; exact fun z => c121 (of_decide_eq_true z))).symm) ?_
          refine J_istore_n (pc := 134) dX11_hopeless_134 (by decide) rfl ?_
          refine J_iinc (pc := 135) (v := 1) dX11_hopeless_135 rfl (by decide) rfl ?_
          refine J_goto (pc := 138) (tgt := 98) dX11_hopeless_138 (by decide) ?_
          exact ih T
  · intro T
    have hof := off_dyN hof0 nr k
    have hHk : MH (dyN X 536 nr k) ns nr np ow := off_MH hof hH
    refine J_iload_n (pc := 44) dX11_hopeless_44 rfl ?_
    refine J_iload_n (pc := 45) dX11_hopeless_45 rfl ?_
    refine J_icmp_ge (pc := 46) (tgt := 63) dX11_hopeless_46 (by decide) (fun c46 => absurd c46 (ix_lt rfl hi (by omega))) (fun c46 => ?_)
    refine J_aload_n (pc := 49) dX11_hopeless_49 rfl ?_
    refine J_aload_n (pc := 50) dX11_hopeless_50 rfl ?_
    refine J_getr (pc := 51) dX11_hopeless_51 kc11 fl_X11_76 rfl ?_
    refine J_cvv (pc := 54) (N := mX11_dayEnds) dX11_hopeless_54 ml_X11_308 cf_X11_dayEnds cv_X11_dayEnds (r_X11_dayEnds (S := w1 (dyN X 536 nr k) T) row536 hHk) rfl rfl (Nat.le_of_ble_eq_true rfl) (by decide) (rv_of (ci := 11) rfl rfl rfl) ?_
    refine J_cg2 (dyE_w1 _ _ _ _) ?_
    refine J_iinc (pc := 57) (v := 1) dX11_hopeless_57 rfl (by decide) rfl ?_
    refine J_goto (pc := 60) (tgt := 44) dX11_hopeless_60 (by decide) ?_
    exact ih T
