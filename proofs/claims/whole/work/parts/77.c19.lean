/-! ===== a work is read ===== -/
def wsF (x k : Nat) : Bool := decide (x = 18 ∧ k = 4)
def wsG (x k : Nat) : Bool := decide (x = 18 ∧ 4 ≤ k ∧ k ≤ 7)
def wsA (x : Nat) : Bool := decide (19 ≤ x ∧ x ≤ 22)
theorem ws_G {S X : Sx} (h : FRC wsF wsA S X) : FRC wsG wsA S X := ⟨FRM_mono h.1 (fun a k q => decide_eq_false (fun z => absurd (decide_eq_true (p := a = 18 ∧ 4 ≤ k ∧ k ≤ 7) ⟨z.1, by omega, by omega⟩) (by unfold wsG at q; rw [q]; decide))) (fun a q => q), h.2⟩
theorem sc_H1 {a : Nat} (ha : HLa a) : ∀ k, 8 ≤ k → k ≤ 10 → wsF a k = false := fun k h1 h2 => decide_eq_false (fun z => by omega)
theorem sc_H2 {a : Nat} (ha : HLa a) : ∀ i, 1 ≤ i → i ≤ 8 → wsA (a + i) = false := fun i h1 h2 => decide_eq_false (fun z => by rcases ha with rfl | rfl <;> omega)
def SCq (Y : Sx) (i : Nat) (q : Q4) : Prop := sa Y 19 i = nI q.1 ∧ (q.1 ≠ 5 → sa Y 20 i = nI q.2.1) ∧ (q.1 = 3 → sa Y 21 i = nI q.2.2.1) ∧ (q.1 = 6 → q.2.2.2 ≠ 0 → sa Y 22 i = nI q.2.2.2)
def SCr (Y : Sx) (l : List Q4) : Prop := sf Y 18 4 = nI l.length ∧ ∀ i, i < l.length → SCq Y i (l.getD i (0, 0, 0, 0))
def OFF (m : Nat) (S X : Sx) : Prop := ∀ b i, i ≠ m → sa X b i = sa S b i
theorem OFF_r (m : Nat) (S : Sx) : OFF m S S := fun _ _ _ => rfl
theorem OFF_A {m : Nat} {S X : Sx} (h : OFF m S X) {b : Nat} {v : Int32} : OFF m S (sA X b m v) := fun c i hi => by
  rw [sa_sA]
  by_cases e : c = b
  · rw [if_pos e, if_neg hi]; exact h c i hi
  · rw [if_neg e]; exact h c i hi
theorem OFF_F {m : Nat} {S X : Sx} (h : OFF m S X) {b k : Nat} {v : Int32} : OFF m S (sF X b k v) := h
theorem SCq_o {m i : Nat} {S X : Sx} {q : Q4} (h : OFF m S X) (hi : i ≠ m) (hq : SCq S i q) : SCq X i q := by
  unfold SCq
  rw [h 19 i hi, h 20 i hi, h 21 i hi, h 22 i hi]
  exact hq
theorem SCr_app {S X : Sx} {l : List Q4} {q : Q4} (h : SCr S l) (hO : OFF l.length S X) (h4 : sf X 18 4 = nI (l.length + 1)) (hq : SCq X l.length q) : SCr X (l ++ [q]) := by
  refine ⟨by rw [len1]; exact h4, fun i hi => ?_⟩
  rw [len1] at hi
  by_cases e : i = l.length
  · subst e; rw [getD_e]; exact hq
  · rw [getD_l (by omega)]; exact SCq_o hO e (h.2 i (by omega))
theorem SCr_set {S X : Sx} {l : List Q4} {q : Q4} {m : Nat} (h : SCr S l) (hO : OFF m S X) (h4 : sf X 18 4 = sf S 18 4) (hq : SCq X m q) : SCr X (l.set m q) := by
  refine ⟨by rw [List.length_set, h4]; exact h.1, fun i hi => ?_⟩
  rw [List.length_set] at hi
  by_cases e : i = m
  · subst e
    rw [List.getD_eq_getElem?_getD, List.getElem?_set_self hi]
    exact hq
  · rw [List.getD_eq_getElem?_getD, List.getElem?_set_ne (fun z => e z.symm), ← List.getD_eq_getElem?_getD]
    exact SCq_o hO e (h.2 i hi)
def WRd (S : Sx) (n : Nat) (r : WS) (X : Sx) : Prop := ∃ Y' u', X = ct Y' u' ∧ UO n u' ∧ UR u' r.1 ∧ FRC wsF wsA S Y' ∧ (r.1.2.1 = 0 → SCr Y' r.2)
def WP0 (g : Gp) (n : Nat) (cc : Nat → Nat) (d : HD) (f : Nat) : Prop := ∀ (S : Sx) (op a : Nat) (s r : WS) (u : UT), CTX S n cc → HLa a → HC S a d → HV d → op ≤ 6 → UO n u → UR u s.1 → s.1.2.1 = 0 → RSI n s → SCr S s.2 → rs cc n (dNs d) (dNr d) (dNp d) f 0 op s = some r → RU g mX4_readStep (3 * (6 - op) + 7) [.ref 18, .ref 1, .ref a, .int (nI op)] (ct S u) (WRd S n r)
def WP1 (g : Gp) (n : Nat) (cc : Nat → Nat) (d : HD) (f : Nat) : Prop := ∀ (S Y : Sx) (op a i : Nat) (s r : WS) (u : UT) (x : Int32) (sz : Nat) (Q : Po), CTX S n cc → HLa a → HC S a d → HV d → op ≤ 6 → UO n u → UR (unx cc n u) s.1 → RSI n s → FRC wsF wsA S Y → (s.1.2.1 = 0 → SCr Y s.2 ∧ 4 * i ≤ s.1.1 ∧ x = nI i) → rs cc n (dNs d) (dNr d) (dNp d) f 1 op s = some r → (∀ X, WRd S n r X → Q (.inl none) (hs X) sz) → J g mX4_readSteps (3 * (6 - op) + 8) [] 3 [some (.ref 18), some (.ref 1), some (.ref a), some (.int (nI op)), some (.int x)] [] (hs (ct Y u)) sz 0 0 Q
theorem rs0_len {S : Sx} {n : Nat} {cc : Nat → Nat} (hT : TX S n cc) {ns nr np f op : Nat} {s r : WS} (hp : PO n s.1) (h0 : s.1.2.1 = 0) (h : rs cc n ns nr np f 0 op s = some r) (hr : r.1.2.1 = 0) : s.2.length + 1 ≤ r.2.length := by
  cases f with
  | zero => cases h
  | succ f =>
    rcases rs0_cs h with ⟨_, e⟩ | ⟨_, _, e⟩ | ⟨hk, ho, s1, e1, e⟩ | ⟨k, hk, hw, e⟩
    · rw [e] at hr; exact absurd hr (Nat.succ_ne_zero 0)
    · rw [e] at hr; exact absurd hr (Nat.succ_ne_zero 2)
    · have p1 := RST_ag1 hT hp h0 hk
      have a1 := RST_rs hT f 1 (op + 1) _ s1 (by decide) p1.1 (fun z => by cases z) e1
      rw [e] at hr ⊢
      have z1 : s1.1.2.1 = 0 := (psg_ok (psg_ok (show (psg cc n 59 (psg cc n 93 s1.1)).2.1 = 0 from hr)).1).1
      have := (a1.2 z1).2.2.2
      have e2 : (ag1 cc n (pwe cc n (pbl cc n s.1.1), s.1.2) s.2).2.length = s.2.length + 1 := len1 _ _
      show s.2.length + 1 ≤ (s1.2.set _ _).length
      rw [List.length_set]
      omega
    · rw [e]
      show _ ≤ (s.2 ++ [_]).length
      rw [len1]
      omega
theorem wp_s1 {g : Gp} {n : Nat} {cc : Nat → Nat} {d : HD} {f : Nat} (h150 : n ≤ 150) (i0 : WP0 g n cc d f) (i1 : WP1 g n cc d f) : WP1 g n cc d (f + 1) := by
  intro S Y op a i s r u x sz Q hx hHL hHC hv h6 hu hur hI hfr hsd h hQ
  have hn9 := hx.2.2.2 n (Nat.le_refl _)
  have hxY := CTX_F hfr (by decide) (by decide) hx
  have hHY := HC_F hHC hfr (sc_H1 hHL) (sc_H2 hHL)
  obtain ⟨S', hT⟩ := TX_of hx
  have hle := pbl_le cc hu.1
  have hIn := hI.1.1
  by_cases q0 : s.1.2.1 = 0
  · obtain ⟨hSC, hi, hx0⟩ := hsd q0
    subst hx0
    have u0 : u.2.2.1 = 0 := (UR_0 hur q0 : (unx cc n u).2.2.1 = 0)
    have eu : pbl cc n u.1 = s.1.1 := hur.2.2 q0
    have hpbl : pbl cc n s.1.1 = s.1.1 := by rw [← eu, pbl_pbl hn9 hu.1]
    have hst : ∀ v : Int32, (op = 0 → v = -1) → (op ≠ 0 → v = 93) → (bv (cc (pbl cc n u.1)) = v ↔ stp cc n op s) := by
      intro v h1 h2
      rw [eu]
      cases op with
      | zero =>
        rw [h1 rfl]
        show _ ↔ decide (n ≤ s.1.1) = true
        rw [decide_eq_true_iff]
        constructor
        · intro z
          refine Nat.le_of_not_lt (fun y => absurd z ?_)
          unfold bv
          rw [if_neg (by have := (hx.2.2.1 s.1.1 y).2; omega)]
          exact nI_nm (by have := (hx.2.2.1 s.1.1 y).2; omega)
        · intro z
          unfold bv
          rw [if_pos (hx.2.2.2 s.1.1 z)]
      | succ op =>
        rw [h2 (Nat.succ_ne_zero op)]
        show _ ↔ decide (cc s.1.1 = 93) = true
        rw [decide_eq_true_iff]
        exact bv_eq (CTX_le hx _) (by decide)
    have join : ∀ v : Int32, (op = 0 → v = -1) → (op ≠ 0 → v = 93) → J g mX4_readSteps (3 * (6 - op) + 8) [] 32 [some (.ref 18), some (.ref 1), some (.ref a), some (.int (nI op)), some (.int (nI i))] [.int v, .int (bv (cc (pbl cc n u.1)))] (hs (ct Y (unx cc n u))) sz 0 0 Q := by
      intro v h1 h2
      rcases rs1_cs h with ⟨q, e⟩ | ⟨q, s1, e1, e2⟩
      · have qs : stp cc n op s := Classical.byContradiction (fun z => q ⟨q0, z⟩)
        subst e
        refine J_icmp_ne (pc := 32) (tgt := 36) dX4_readSteps_32 (by decide) (fun c32 => absurd ((hst v h1 h2).mpr qs) c32) (fun c32 => ?_)
        exact J_ret (pc := 35) rfl rfl dX4_readSteps_35 (hQ _ ⟨Y, _, rfl, UO_nx hu, hur, hfr, fun _ => hSC⟩)
      · have a1 := RST_rs hT f 0 op s s1 (by decide) hI.1 (fun _ => q0) e1
        have I1 := RST_I a1 hI
        refine J_icmp_ne (pc := 32) (tgt := 36) dX4_readSteps_32 (by decide) (fun c32 => ?_) (fun c32 => absurd ((hst v h1 h2).mp c32) q.2)
        refine J_aload_n (pc := 36) dX4_readSteps_36 rfl ?_
        refine J_aload_n (pc := 37) dX4_readSteps_37 rfl ?_
        refine J_aload_n (pc := 38) dX4_readSteps_38 rfl ?_
        refine J_iload_n (pc := 39) dX4_readSteps_39 rfl ?_
        refine J_cvU (pc := 40) (N := mX4_readStep) dX4_readSteps_40 ml_X4_51 cf_X4_readStep cv_X4_readStep (i0 Y op a s s1 _ hxY hHL hHY hv h6 (UO_nx hu) hur q0 hI hSC e1) rfl rfl (Nat.le_of_ble_eq_true rfl) (by omega) (rv_of (ci := 4) rfl rfl rfl) ?_
        intro X40 hX40
        obtain ⟨Y', u', rfl, hu', hur', hfr', hsc'⟩ := hX40
        refine J_iinc (pc := 43) (v := 1) dX4_readSteps_43 rfl (by decide) rfl ?_
        rw [nI_1]
        refine J_goto (pc := 46) (tgt := 3) dX4_readSteps_46 (by decide) ?_
        refine i1 S Y' op a (i + 1) ((pbl cc n s1.1.1, s1.1.2), s1.2) r u' _ sz Q hx hHL hHC hv h6 hu' (UR_nx hur') ⟨⟨pbl_le cc I1.1.1, I1.1.2⟩, fun z => by have := I1.2 z; have := pbl_ge cc n s1.1.1; show 4 * s1.2.length ≤ pbl cc n s1.1.1; omega⟩ (FRC_t hfr hfr') (fun z => ⟨hsc' z, ?_, rfl⟩) e2 hQ
        have z : s1.1.2.1 = 0 := z
        have := (a1.2 z).2.2.1
        have := rs0_len hT hI.1 q0 e1 z
        have := pbl_ge cc n s1.1.1
        show 4 * (i + 1) ≤ pbl cc n s1.1.1
        omega
    refine J_iload (pc := 3) dX4_readSteps_3 rfl ?_
    refine J_sipush (pc := 5) (v := 150) dX4_readSteps_5 (by decide) ?_
    refine J_icmp_ge (pc := 8) (tgt := 49) dX4_readSteps_8 (by decide) (fun c8 => absurd c8 (nI_ge (b := 150) (by omega) (by decide))) (fun c8 => ?_)
    refine J_aload_n (pc := 11) dX4_readSteps_11 rfl ?_
    refine J_cnr (pc := 12) (N := mX8_isSound) dX4_readSteps_12 ml_X4_41 cf_X8_isSound cv_X8_isSound (r_X8_isSound hu) rfl rfl (Nat.le_of_ble_eq_true rfl) (by omega) (rv_of (ci := 8) rfl rfl rfl) ?_
    refine J_ifp_eq (pc := 15) (tgt := 49) dX4_readSteps_15 (by decide) (fun c15 => absurd u0 c15) (fun c15 => ?_)
    refine J_aload_n (pc := 18) dX4_readSteps_18 rfl ?_
    refine J_cnr (pc := 19) (N := mX8_next) dX4_readSteps_19 ml_X4_47 cf_X8_next cv_X8_next (r_X8_next hxY hu) rfl rfl (Nat.le_of_ble_eq_true rfl) (by omega) (rv_of (ci := 8) rfl rfl rfl) ?_
    refine J_iload_n (pc := 22) dX4_readSteps_22 rfl ?_
    refine J_if_ne (pc := 23) (tgt := 30) dX4_readSteps_23 (by decide) (fun c23 => ?_) (fun c23 => ?_)
    · have o0 : op ≠ 0 := fun q => c23 (by rw [q]; rfl)
      refine J_bipush (pc := 30) (v := 93) dX4_readSteps_30 (by decide) ?_
      first
        | exact join _ (fun _ => rfl) (fun z => absurd o0 z)
        | exact join _ (fun z => absurd z o0) (fun _ => rfl)
    · have o0 : op = 0 := nI_eq_m (b := 0) (by omega) (by omega) c23
      refine J_iconst (pc := 26) (v := -1) dX4_readSteps_26 (by decide) ?_
      refine J_goto (pc := 27) (tgt := 32) dX4_readSteps_27 (by decide) ?_
      first
        | exact join _ (fun _ => rfl) (fun z => absurd o0 z)
        | exact join _ (fun z => absurd z o0) (fun _ => rfl)
  · have hr : r = s := by
      rcases rs1_cs h with ⟨_, e⟩ | ⟨q, _⟩
      · exact e
      · exact absurd q.1 q0
    subst hr
    have u0 : ¬ u.2.2.1 = 0 := fun z => q0 (UR_s hur (show (unx cc n u).2.2.1 = 0 from z))
    have hur2 : UR u r.1 := ⟨hur.1, hur.2.1, fun z => absurd z q0⟩
    have fin : J g mX4_readSteps (3 * (6 - op) + 8) [] 49 [some (.ref 18), some (.ref 1), some (.ref a), some (.int (nI op)), some (.int x)] [] (hs (ct Y u)) sz 0 0 Q := J_ret (pc := 49) rfl rfl dX4_readSteps_49 (hQ _ ⟨Y, u, rfl, hu, hur2, hfr, fun z => absurd z q0⟩)
    refine J_iload (pc := 3) dX4_readSteps_3 rfl ?_
    refine J_sipush (pc := 5) (v := 150) dX4_readSteps_5 (by decide) ?_
    refine J_icmp_ge (pc := 8) (tgt := 49) dX4_readSteps_8 (by decide) (fun c8 => ?_) (fun c8 => ?_)
    · exact fin
    · refine J_aload_n (pc := 11) dX4_readSteps_11 rfl ?_
      refine J_cnr (pc := 12) (N := mX8_isSound) dX4_readSteps_12 ml_X4_41 cf_X8_isSound cv_X8_isSound (r_X8_isSound hu) rfl rfl (Nat.le_of_ble_eq_true rfl) (by omega) (rv_of (ci := 8) rfl rfl rfl) ?_
      refine J_ifp_eq (pc := 15) (tgt := 49) dX4_readSteps_15 (by decide) (fun c15 => ?_) (fun c15 => absurd c15 u0)
      exact fin
theorem c_readSteps {g : Gp} {n : Nat} {cc : Nat → Nat} {d : HD} {f : Nat} (i1 : WP1 g n cc d f) {S : Sx} {op a : Nat} {s r : WS} {u : UT} (hx : CTX S n cc) (hHL : HLa a) (hHC : HC S a d) (hv : HV d) (h6 : op ≤ 6) (hu : UO n u) (hur : UR (unx cc n u) s.1) (hI : RSI n s) (hsd : s.1.2.1 = 0 → SCr S s.2) (h : rs cc n (dNs d) (dNr d) (dNp d) f 1 op s = some r) : RU g mX4_readSteps (3 * (6 - op) + 8) [.ref 18, .ref 1, .ref a, .int (nI op)] (ct S u) (WRd S n r) := by
  refine RU_ofQ ⟨rfl, rfl⟩ (Nat.le_of_ble_eq_true rfl) (fun sz Q hQ => ?_)
  refine J_iconst (pc := 0) (v := 0) dX4_readSteps_0 (by decide) ?_
  refine J_istore (pc := 1) dX4_readSteps_1 (by decide) rfl ?_
  exact i1 S S op a 0 s r u _ sz Q hx hHL hHC hv h6 hu hur hI (FRC_r _ _ _) (fun z => ⟨hsd z, Nat.zero_le _, rfl⟩) h hQ
theorem c_readAgain {g : Gp} {n : Nat} {cc : Nat → Nat} {d : HD} {f : Nat} (h150 : n ≤ 150) (i1 : WP1 g n cc d f) {S : Sx} {op a : Nat} {l : List Q4} {t : PT} {s1 : WS} {u : UT} (hx : CTX S n cc) (hHL : HLa a) (hHC : HC S a d) (hv : HV d) (h6 : op < 6) (hu : UO n u) (hur : UR u t) (hpo : PO n t) (h0 : t.2.1 = 0) (hl : l.length < 37) (hI : RSI n (ag1 cc n t l)) (h4 : sf S 18 4 = nI (l.length + 1)) (hkp : ∀ i, i < l.length → SCq S i (l.getD i (0, 0, 0, 0))) (h19 : sa S 19 l.length = nI 6) (e1 : rs cc n (dNs d) (dNr d) (dNp d) f 1 (op + 1) (ag1 cc n t l) = some s1) : RU g mX4_readAgain (3 * (6 - op) + 6) [.ref 18, .ref 1, .ref a, .int (nI op), .int (nI l.length)] (ct S u) (WRd S n (psg cc n 93 s1.1, s1.2.set l.length (6, (pnum cc n 0 41 t).1, 0, s1.2.length))) := by
  refine RU_ofQ ⟨rfl, rfl⟩ (Nat.le_of_ble_eq_true rfl) (fun sz Q hQ => ?_)
  obtain ⟨S', hT⟩ := TX_of hx
  have hn9 := hx.2.2.2 n (Nat.le_refl _)
  have r1 := UR_nm (cc := cc) (n := n) (lo := 0) (hi := 41) hur (by decide)
  have uA : UO n (unm cc n 0 41 u).2 := UO_nm hu
  have fr1 : FRC wsF wsA S (sA S 20 l.length (ov (unm cc n 0 41 u).1)) := FRC_A (FRC_r _ _ _) (by decide)
  have hx1 := CTX_F fr1 (by decide) (by decide) hx
  have hH1 := HC_F hHC fr1 (sc_H1 hHL) (sc_H2 hHL)
  have uB : UO n (udm cc n 91 (unm cc n 0 41 u).2) := UO_dm hx1 uA (by decide)
  have rB : UR (udm cc n 91 (unm cc n 0 41 u).2) (ag0 cc n t) := UR_dm r1.1
  have sc1 : (ag1 cc n t l).1.2.1 = 0 → SCr (sA S 20 l.length (ov (unm cc n 0 41 u).1)) (l ++ [(6, (pnum cc n 0 41 t).1, 0, 0)]) := by
    intro z
    have z1 : (pnum cc n 0 41 t).2.2.1 = 0 := (psg_ok (show (psg cc n 91 (pnum cc n 0 41 t).2).2.1 = 0 from z)).1
    rw [r1.2 z1]
    refine ⟨by rw [len1]; exact h4, fun i hi => ?_⟩
    rw [len1] at hi
    by_cases e : i = l.length
    · subst e
      rw [getD_e]
      exact ⟨h19, fun _ => sa_e _ _ _ _, fun y => absurd y (by show ¬ 6 = 3; decide), fun _ y => absurd rfl y⟩
    · rw [getD_l (by omega)]
      exact SCq_o (OFF_A (OFF_r _ _)) e (hkp i (by omega))
  have hkeep := rs_keep hT f 1 (op + 1) _ s1 (by decide) hI.1 (fun z => by cases z) e1
  refine J_iload_n (pc := 0) dX4_readAgain_0 rfl ?_
  refine J_bipush (pc := 1) (v := 6) dX4_readAgain_1 (by decide) ?_
  refine J_icmp_lt (pc := 3) (tgt := 16) dX4_readAgain_3 (by decide) (fun c3 => ?_) (fun c3 => absurd (nI_lt (b := 6) h6 (by decide)) c3)
  refine J_aload_n (pc := 16) dX4_readAgain_16 rfl ?_
  refine J_getr (pc := 17) dX4_readAgain_17 kc4 fl_X4_15 rfl ?_
  refine J_iload (pc := 20) dX4_readAgain_20 rfl ?_
  refine J_aload_n (pc := 22) dX4_readAgain_22 rfl ?_
  refine J_iconst (pc := 23) (v := 0) dX4_readAgain_23 (by decide) ?_
  refine J_bipush (pc := 24) (v := 40) dX4_readAgain_24 (by decide) ?_
  refine J_cnr (pc := 26) (N := mX8_number) dX4_readAgain_26 ml_X4_69 cf_X8_number cv_X8_number (r_X8_number (lo := 0) (hi := 41) hx hu rfl rfl (by decide) (by decide)) rfl rfl (Nat.le_of_ble_eq_true rfl) (by omega) (rv_of (ci := 8) rfl rfl rfl) ?_
  refine J_is (pc := 29) dX4_readAgain_29 rfl rfl ⟨hl, by decide⟩ ?_
  rw [ct_A]
  refine J_aload_n (pc := 30) dX4_readAgain_30 rfl ?_
  refine J_bipush (pc := 31) (v := 91) dX4_readAgain_31 (by decide) ?_
  refine J_cnv (pc := 33) (N := mX8_demand) dX4_readAgain_33 ml_X4_79 cf_X8_demand cv_X8_demand (r_X8_demand (c := 91) hx1 uA (by decide)) rfl rfl (Nat.le_of_ble_eq_true rfl) (by omega) (rv_of (ci := 8) rfl rfl rfl) ?_
  refine J_aload_n (pc := 36) dX4_readAgain_36 rfl ?_
  refine J_aload_n (pc := 37) dX4_readAgain_37 rfl ?_
  refine J_aload_n (pc := 38) dX4_readAgain_38 rfl ?_
  refine J_iload_n (pc := 39) dX4_readAgain_39 rfl ?_
  refine J_iconst (pc := 40) (v := 1) dX4_readAgain_40 (by decide) ?_
  refine J_iadd (pc := 41) dX4_readAgain_41 ?_
  rw [nI_1]
  refine J_cvU (pc := 42) (N := mX4_readSteps) dX4_readAgain_42 ml_X4_37 cf_X4_readSteps cv_X4_readSteps (c_readSteps i1 hx1 hHL hH1 hv (show op + 1 ≤ 6 by omega) uB (UR_nx rB) hI sc1 e1) rfl rfl (Nat.le_of_ble_eq_true rfl) (by omega) (rv_of (ci := 4) rfl rfl rfl) ?_
  intro X42 hX42
  obtain ⟨Y3, u3, rfl, hu3, hur3, hfr3, hsc3⟩ := hX42
  have hx3 := CTX_F (FRC_t fr1 hfr3) (by decide) (by decide) hx
  refine J_aload_n (pc := 45) dX4_readAgain_45 rfl ?_
  refine J_bipush (pc := 46) (v := 93) dX4_readAgain_46 (by decide) ?_
  refine J_cnv (pc := 48) (N := mX8_demand) dX4_readAgain_48 ml_X4_79 cf_X8_demand cv_X8_demand (r_X8_demand (c := 93) hx3 hu3 (by decide)) rfl rfl (Nat.le_of_ble_eq_true rfl) (by omega) (rv_of (ci := 8) rfl rfl rfl) ?_
  refine J_aload_n (pc := 51) dX4_readAgain_51 rfl ?_
  refine J_getr (pc := 52) dX4_readAgain_52 kc4 fl_X4_21 rfl ?_
  refine J_iload (pc := 55) dX4_readAgain_55 rfl ?_
  refine J_aload_n (pc := 57) dX4_readAgain_57 rfl ?_
  refine J_geti (pc := 58) dX4_readAgain_58 kc4 fl_X4_24 rfl ?_
  refine J_is (pc := 61) dX4_readAgain_61 rfl rfl ⟨hl, by decide⟩ ?_
  rw [ct_A]
  exact J_ret rfl rfl dX4_readAgain_62 (hQ _ ⟨_, _, rfl, UO_dm hx3 hu3 (by decide), UR_dm hur3, FRC_A (FRC_t fr1 hfr3) (by decide), fun z => by
    have z1 : s1.1.2.1 = 0 := (psg_ok (show (psg cc n 93 s1.1).2.1 = 0 from z)).1
    have sc3 := hsc3 z1
    have hk := hkeep z1 l.length (by show _ < (l ++ [_]).length; rw [len1]; omega)
    rw [show (ag1 cc n t l).2.getD l.length (0, 0, 0, 0) = (6, (pnum cc n 0 41 t).1, 0, 0) from getD_e] at hk
    have a3 := RST_rs hT f 1 (op + 1) _ s1 (by decide) hI.1 (fun z => by cases z) e1
    have hln : l.length + 1 ≤ s1.2.length := by
      have := (a3.2 z1).2.2.2
      rw [show (ag1 cc n t l).2.length = l.length + 1 from len1 _ _] at this
      exact this
    have hq := sc3.2 l.length (by omega)
    rw [hk] at hq
    refine SCr_set sc3 (OFF_A (OFF_r _ _)) rfl ⟨hq.1, fun y => hq.2.1 y, fun y => absurd y (by show ¬ 6 = 3; decide), fun _ _ => ?_⟩
    rw [sa_e, ct_o (by decide)]
    exact sc3.1⟩)
theorem c_readAgain6 {g : Gp} {n : Nat} {S : Sx} {op a b w0 : Nat} {u : UT} {x : Int32} (hU : UO n (w0, b, u.2.2)) (u0 : u.2.2.1 = 0) (hle : b ≤ n) (q6 : op = 6) {l : List Q4} : RU g mX4_readAgain (3 * (6 - op) + 6) [.ref 18, .ref 1, .ref a, .int (nI op), .int x] (ct S (w0, b, u.2.2)) (WRd S n ((b, 3, b), l)) := by
  refine RU_ofQ ⟨rfl, rfl⟩ (Nat.le_of_ble_eq_true rfl) (fun sz Q hQ => ?_)
  refine J_iload_n (pc := 0) dX4_readAgain_0 rfl ?_
  refine J_bipush (pc := 1) (v := 6) dX4_readAgain_1 (by decide) ?_
  refine J_icmp_lt (pc := 3) (tgt := 16) dX4_readAgain_3 (by decide) (fun c3 => absurd c3 (by rw [q6]; exact Int32.lt_irrefl)) (fun c3 => ?_)
  refine J_aload_n (pc := 6) dX4_readAgain_6 rfl ?_
  refine J_iconst (pc := 7) (v := 3) dX4_readAgain_7 (by decide) ?_
  refine J_aload_n (pc := 8) dX4_readAgain_8 rfl ?_
  refine J_getiN (pc := 9) dX4_readAgain_9 kc8 fl_X4_83 rfl ?_
  refine J_t1 (y := nI b) rfl ?_
  refine J_cnv (pc := 12) (N := mX8_mark) dX4_readAgain_12 ml_X4_86 cf_X8_mark cv_X8_mark (r_X8_mark (k := 3) hU (by decide)) rfl rfl (Nat.le_of_ble_eq_true rfl) (by omega) (rv_of (ci := 8) rfl rfl rfl) ?_
  exact J_ret (pc := 15) rfl rfl dX4_readAgain_15 (hQ _ ⟨S, _, rfl, UO_um hU (by decide) hle, by unfold um; rw [if_pos (show u.2.2.1 = 0 from u0)]; exact ⟨rfl, fun _ => rfl, fun z => absurd z (Nat.succ_ne_zero 2)⟩, FRC_r _ _ _, fun z => absurd z (Nat.succ_ne_zero 2)⟩)
theorem wp_s0 {g : Gp} {n : Nat} {cc : Nat → Nat} {d : HD} {f : Nat} (h150 : n ≤ 150) (i1 : WP1 g n cc d f) : WP0 g n cc d (f + 1) := by
  intro S op a s r u hx hHL hHC hv h6 hu hur hs0 hI hSC h
  refine RU_ofQ ⟨rfl, rfl⟩ (Nat.le_of_ble_eq_true rfl) (fun sz Q hQ => ?_)
  obtain ⟨S', hT⟩ := TX_of hx
  have h1 := HLa_1 hHL
  have hn9 := hx.2.2.2 n (Nat.le_refl _)
  have n1 : dNs d ≤ 8 := hv.1
  have n2 : dNr d ≤ 10 := hv.2.1
  have n3 : dNp d ≤ 8 := hv.2.2.1
  have eu : u.1 = s.1.1 := hur.2.2 hs0
  have u0 := UR_0 hur hs0
  have hle := pbl_le cc hI.1.1
  have hpg := pbl_ge cc n s.1.1
  have hI4 := hI.2 hs0
  have hcs := rs0_cs h
  obtain ⟨b, hb⟩ : ∃ b, pbl cc n s.1.1 = b := ⟨_, rfl⟩
  have hbu : pbl cc n u.1 = b := by rw [eu]; exact hb
  rw [hb] at hle hpg hcs
  obtain ⟨w0, hw0⟩ : ∃ w0, pwe cc n b = w0 := ⟨_, rfl⟩
  have w1 : b ≤ w0 := by rw [← hw0]; exact pwe_ge cc n b
  have w2 : w0 ≤ n := by rw [← hw0]; exact pwe_le cc hle
  rw [hw0] at hcs
  have hU : UO n (w0, b, u.2.2) := ⟨w2, w1, hu.2.2⟩
  have hur1 : UR (w0, b, u.2.2) (w0, s.1.2) := ⟨hur.1, hur.2.1, fun _ => rfl⟩
  have hp0 : PO n ((w0, s.1.2) : PT) := ⟨w2, hI.1.2⟩
  have hwd : uwd cc n (wds 5) u = (match wix cc n b wStp 0 with
    | some k => (some k, (w0, b, u.2.2))
    | none => (none, um 1 b (w0, b, u.2.2))) := by
    unfold uwd
    rw [hbu, hw0]
    rfl
  refine J_aload_n (pc := 0) dX4_readStep_0 rfl ?_
  refine J_ldcs (pc := 1) (i := 5) dX4_readStep_1 rfl rfl ?_
  refine J_cnr (pc := 3) (N := mX8_word) dX4_readStep_3 ml_X4_56 cf_X8_word cv_X8_word (r_X8_word hx hu (i := 5) (by decide) pok_5) rfl rfl (Nat.le_of_ble_eq_true rfl) (by omega) (rv_of (ci := 8) rfl rfl rfl) ?_
  rw [hwd]
  cases hk : wix cc n b wStp 0 with
  | none =>
    have hr : r = ((b, 1, b), s.2) := by
      rcases hcs with ⟨_, e⟩ | ⟨q, _⟩ | ⟨q, _⟩ | ⟨k, _, q, _⟩
      · exact e
      · rw [hk] at q; cases q
      · rw [hk] at q; cases q
      · rw [hk] at q; cases q
    subst hr
    refine J_cg2 (S' := ct S (um 1 b (w0, b, u.2.2))) rfl ?_
    refine J_t1 (y := -1) rfl ?_
    refine J_istore (pc := 6) dX4_readStep_6 (by decide) rfl ?_
    refine J_iload (pc := 8) dX4_readStep_8 rfl ?_
    refine J_iconst (pc := 10) (v := -1) dX4_readStep_10 (by decide) ?_
    refine J_icmp_eq (pc := 11) (tgt := 26) dX4_readStep_11 (by decide) (fun c11 => ?_) (fun c11 => absurd rfl c11)
    exact J_ret (pc := 26) rfl rfl dX4_readStep_26 (hQ _ ⟨S, _, rfl, UO_um hU (by decide) hle, by unfold um; rw [if_pos (show u.2.2.1 = 0 from u0)]; exact ⟨rfl, fun _ => rfl, fun z => absurd z (Nat.succ_ne_zero 0)⟩, FRC_r _ _ _, fun z => absurd z (Nat.succ_ne_zero 0)⟩)
  | some k =>
    have h3 := (stp_w hle hk).1
    rw [hw0] at h3
    have k7 : k < 7 := (wix_lt hk).2
    have hl37 : s.2.length < 37 := by omega
    refine J_cg2 (S' := ct S (w0, b, u.2.2)) rfl ?_
    refine J_t1 (y := nI k) rfl ?_
    have frA : FRC wsF wsA S (sA (sF S 18 4 (nI (s.2.length + 1))) 19 s.2.length (nI k)) := FRC_A (FRC_F (FRC_r _ _ _) (by decide)) (by decide)
    obtain ⟨Y1, hY1⟩ : ∃ Y, Y = sA (sF S 18 4 (nI (s.2.length + 1))) 19 s.2.length (nI k) := ⟨_, rfl⟩
    rw [← hY1] at frA
    have hxA := CTX_F frA (by decide) (by decide) hx
    have hHA := HC_F hHC frA (sc_H1 hHL) (sc_H2 hHL)
    have h4A : sf Y1 18 4 = nI (s.2.length + 1) := by rw [hY1]; exact (sF_s (S := S) (a := 18) (k := 4))
    have h19 : sa Y1 19 s.2.length = nI k := by rw [hY1]; exact sa_e _ _ _ _
    have hOA : OFF s.2.length S Y1 := by rw [hY1]; exact OFF_A (OFF_F (OFF_r _ _))
    have hsl : sf S 18 4 = nI s.2.length := hSC.1
    have dem : ∀ Y' u' t l', UO n u' → UR u' t → FRC wsF wsA S Y' → (t.2.1 = 0 → SCr Y' l') → (∀ X, WRd S n (psg cc n 59 t, l') X → Q (.inl none) (hs X) sz) → ∀ l4 l5, J g mX4_readStep (3 * (6 - op) + 7) [] 152 [some (.ref 18), some (.ref 1), some (.ref a), some (.int (nI op)), l4, l5] [] (hs (ct Y' u')) sz 0 0 Q := by
      intro Y' u' t l' hu' hur' hfr hsc hQ' l4 l5
      have hx' := CTX_F hfr (by decide) (by decide) hx
      refine J_aload_n (pc := 152) dX4_readStep_152 rfl ?_
      refine J_bipush (pc := 153) (v := 59) dX4_readStep_153 (by decide) ?_
      refine J_cnv (pc := 155) (N := mX8_demand) dX4_readStep_155 ml_X4_79 cf_X8_demand cv_X8_demand (r_X8_demand (c := 59) hx' hu' (by decide)) rfl rfl (Nat.le_of_ble_eq_true rfl) (by omega) (rv_of (ci := 8) rfl rfl rfl) ?_
      exact J_ret (pc := 158) rfl rfl dX4_readStep_158 (hQ' _ ⟨Y', _, rfl, UO_dm hx' hu' (by decide), UR_dm hur', hfr, fun z => hsc (psg_ok z).1⟩)
    refine J_istore (pc := 6) dX4_readStep_6 (by decide) rfl ?_
    refine J_iload (pc := 8) dX4_readStep_8 rfl ?_
    refine J_iconst (pc := 10) (v := -1) dX4_readStep_10 (by decide) ?_
    refine J_icmp_eq (pc := 11) (tgt := 26) dX4_readStep_11 (by decide) (fun c11 => absurd c11 (nI_nm (k := k) (by omega))) (fun c11 => ?_)
    refine J_aload_n (pc := 14) dX4_readStep_14 rfl ?_
    refine J_geti (pc := 15) dX4_readStep_15 kc4 fl_X4_24 rfl ?_
    refine J_t1 (y := nI s.2.length) hsl ?_
    refine J_aload_n (pc := 18) dX4_readStep_18 rfl ?_
    refine J_getr (pc := 19) dX4_readStep_19 kc4 fl_X4_11 rfl ?_
    refine J_al (pc := 22) dX4_readStep_22 (by first | rfl | assumption) (by decide) rfl ?_
    refine J_icmp_lt (pc := 23) (tgt := 27) dX4_readStep_23 (by decide) (fun c23 => ?_) (fun c23 => absurd (nI_lt (b := 37) hl37 (by decide)) c23)
    refine J_aload_n (pc := 27) dX4_readStep_27 rfl ?_
    refine J_geti (pc := 28) dX4_readStep_28 kc4 fl_X4_24 rfl ?_
    refine J_t1 (y := nI s.2.length) hsl ?_
    refine J_istore (pc := 31) dX4_readStep_31 (by decide) rfl ?_
    refine J_aload_n (pc := 33) dX4_readStep_33 rfl ?_
    refine J_dup (pc := 34) dX4_readStep_34 rfl ?_
    refine J_geti (pc := 35) dX4_readStep_35 kc4 fl_X4_24 rfl ?_
    refine J_t1 (y := nI s.2.length) hsl ?_
    refine J_iconst (pc := 38) (v := 1) dX4_readStep_38 (by decide) ?_
    refine J_iadd (pc := 39) dX4_readStep_39 ?_
    rw [nI_1]
    refine J_puti (pc := 40) dX4_readStep_40 kc4 fl_X4_24 rfl ⟨rfl, rfl⟩ ?_
    rw [ct_F (by decide)]
    refine J_aload_n (pc := 43) dX4_readStep_43 rfl ?_
    refine J_getr (pc := 44) dX4_readStep_44 kc4 fl_X4_11 rfl ?_
    refine J_iload (pc := 47) dX4_readStep_47 rfl ?_
    refine J_iload (pc := 49) dX4_readStep_49 rfl ?_
    refine J_is (pc := 51) dX4_readStep_51 rfl rfl ⟨hl37, by decide⟩ ?_
    rw [ct_A, ← hY1]
    match k, k7 with
    | 0, _ =>
      have hr : r = sgo cc n (dNs d) (dNr d) (dNp d) 0 (w0, s.1.2) s.2 := by
        rcases hcs with ⟨q, _⟩ | ⟨q, _⟩ | ⟨q, _⟩ | ⟨j, _, q, e⟩
        · rw [hk] at q; cases q
        · rw [hk] at q; cases q
        · rw [hk] at q; cases q
        · rw [hk] at q; cases q; exact e
      subst hr
      have r1 := UR_nm (cc := cc) (n := n) (lo := 0) (hi := dNr d) hur1 (by omega)
      refine J_iload (pc := 52) dX4_readStep_52 rfl ?_
      refine J_bipush (pc := 54) (v := 6) dX4_readStep_54 (by decide) ?_
      refine J_icmp_ne (pc := 56) (tgt := 71) dX4_readStep_56 (by decide) (fun c56 => ?_) (fun c56 => absurd c56 (by decide))
      refine J_iload (pc := 71) dX4_readStep_71 rfl ?_
      refine J_iconst (pc := 73) (v := 2) dX4_readStep_73 (by decide) ?_
      refine J_icmp_eq (pc := 74) (tgt := 83) dX4_readStep_74 (by decide) (fun c74 => absurd c74 (by decide)) (fun c74 => ?_)
      refine J_iload (pc := 77) dX4_readStep_77 rfl ?_
      refine J_iconst (pc := 79) (v := 4) dX4_readStep_79 (by decide) ?_
      refine J_icmp_ne (pc := 80) (tgt := 104) dX4_readStep_80 (by decide) (fun c80 => ?_) (fun c80 => absurd c80 (by decide))
      refine J_iload (pc := 104) dX4_readStep_104 rfl ?_
      refine J_iconst (pc := 106) (v := 5) dX4_readStep_106 (by decide) ?_
      refine J_icmp_eq (pc := 107) (tgt := 128) dX4_readStep_107 (by decide) (fun c107 => absurd c107 (by decide)) (fun c107 => ?_)
      refine J_aload_n (pc := 110) dX4_readStep_110 rfl ?_
      refine J_getr (pc := 111) dX4_readStep_111 kc4 fl_X4_15 rfl ?_
      refine J_iload (pc := 114) dX4_readStep_114 rfl ?_
      refine J_aload_n (pc := 116) dX4_readStep_116 rfl ?_
      refine J_iconst (pc := 117) (v := 0) dX4_readStep_117 (by decide) ?_
      refine J_aload_n (pc := 118) dX4_readStep_118 rfl ?_
      refine J_getiN (pc := 119) dX4_readStep_119 kc1 fl_X4_73 (by first | exact hou_i9 (by assumption) | rfl) ?_
      refine J_t1 (y := nI (dNr d)) ((ct_o h1).trans hHA.2.1) ?_
      refine J_iconst (pc := 122) (v := 1) dX4_readStep_122 (by decide) ?_
      refine J_isub (pc := 123) dX4_readStep_123 ?_
      refine J_cnr (pc := 124) (N := mX8_number) dX4_readStep_124 ml_X4_69 cf_X8_number cv_X8_number (r_X8_number (lo := 0) (hi := dNr d) hxA hU rfl rfl (by omega) (by omega)) rfl rfl (Nat.le_of_ble_eq_true rfl) (by omega) (rv_of (ci := 8) rfl rfl rfl) ?_
      refine J_is (pc := 127) dX4_readStep_127 rfl rfl ⟨hl37, by decide⟩ ?_
      rw [ct_A]
      refine J_iload (pc := 128) dX4_readStep_128 rfl ?_
      refine J_iconst (pc := 130) (v := 3) dX4_readStep_130 (by decide) ?_
      refine J_icmp_ne (pc := 131) (tgt := 152) dX4_readStep_131 (by decide) (fun c131 => ?_) (fun c131 => absurd c131 (by decide))
      refine dem (sA Y1 20 s.2.length (ov (unm cc n 0 (dNr d) (w0, b, u.2.2)).1)) _ (pnum cc n 0 (dNr d) (w0, s.1.2)).2 (s.2 ++ [(0, (pnum cc n 0 (dNr d) (w0, s.1.2)).1, 0, s.2.length + 1)]) (UO_nm hU) r1.1 (FRC_A frA (by decide)) (fun z => ?_) hQ _ _
      rw [r1.2 z]
      exact SCr_app hSC (OFF_A hOA) h4A ⟨h19, fun _ => sa_e _ _ _ _, fun y => absurd y (by show ¬ 0 = 3; decide), fun y => absurd y (by show ¬ 0 = 6; decide)⟩
    | 1, _ =>
      have hr : r = sgo cc n (dNs d) (dNr d) (dNp d) 1 (w0, s.1.2) s.2 := by
        rcases hcs with ⟨q, _⟩ | ⟨q, _⟩ | ⟨q, _⟩ | ⟨j, _, q, e⟩
        · rw [hk] at q; cases q
        · rw [hk] at q; cases q
        · rw [hk] at q; cases q
        · rw [hk] at q; cases q; exact e
      subst hr
      have r1 := UR_nm (cc := cc) (n := n) (lo := 0) (hi := dNr d) hur1 (by omega)
      refine J_iload (pc := 52) dX4_readStep_52 rfl ?_
      refine J_bipush (pc := 54) (v := 6) dX4_readStep_54 (by decide) ?_
      refine J_icmp_ne (pc := 56) (tgt := 71) dX4_readStep_56 (by decide) (fun c56 => ?_) (fun c56 => absurd c56 (by decide))
      refine J_iload (pc := 71) dX4_readStep_71 rfl ?_
      refine J_iconst (pc := 73) (v := 2) dX4_readStep_73 (by decide) ?_
      refine J_icmp_eq (pc := 74) (tgt := 83) dX4_readStep_74 (by decide) (fun c74 => absurd c74 (by decide)) (fun c74 => ?_)
      refine J_iload (pc := 77) dX4_readStep_77 rfl ?_
      refine J_iconst (pc := 79) (v := 4) dX4_readStep_79 (by decide) ?_
      refine J_icmp_ne (pc := 80) (tgt := 104) dX4_readStep_80 (by decide) (fun c80 => ?_) (fun c80 => absurd c80 (by decide))
      refine J_iload (pc := 104) dX4_readStep_104 rfl ?_
      refine J_iconst (pc := 106) (v := 5) dX4_readStep_106 (by decide) ?_
      refine J_icmp_eq (pc := 107) (tgt := 128) dX4_readStep_107 (by decide) (fun c107 => absurd c107 (by decide)) (fun c107 => ?_)
      refine J_aload_n (pc := 110) dX4_readStep_110 rfl ?_
      refine J_getr (pc := 111) dX4_readStep_111 kc4 fl_X4_15 rfl ?_
      refine J_iload (pc := 114) dX4_readStep_114 rfl ?_
      refine J_aload_n (pc := 116) dX4_readStep_116 rfl ?_
      refine J_iconst (pc := 117) (v := 0) dX4_readStep_117 (by decide) ?_
      refine J_aload_n (pc := 118) dX4_readStep_118 rfl ?_
      refine J_getiN (pc := 119) dX4_readStep_119 kc1 fl_X4_73 (by first | exact hou_i9 (by assumption) | rfl) ?_
      refine J_t1 (y := nI (dNr d)) ((ct_o h1).trans hHA.2.1) ?_
      refine J_iconst (pc := 122) (v := 1) dX4_readStep_122 (by decide) ?_
      refine J_isub (pc := 123) dX4_readStep_123 ?_
      refine J_cnr (pc := 124) (N := mX8_number) dX4_readStep_124 ml_X4_69 cf_X8_number cv_X8_number (r_X8_number (lo := 0) (hi := dNr d) hxA hU rfl rfl (by omega) (by omega)) rfl rfl (Nat.le_of_ble_eq_true rfl) (by omega) (rv_of (ci := 8) rfl rfl rfl) ?_
      refine J_is (pc := 127) dX4_readStep_127 rfl rfl ⟨hl37, by decide⟩ ?_
      rw [ct_A]
      refine J_iload (pc := 128) dX4_readStep_128 rfl ?_
      refine J_iconst (pc := 130) (v := 3) dX4_readStep_130 (by decide) ?_
      refine J_icmp_ne (pc := 131) (tgt := 152) dX4_readStep_131 (by decide) (fun c131 => ?_) (fun c131 => absurd c131 (by decide))
      refine dem (sA Y1 20 s.2.length (ov (unm cc n 0 (dNr d) (w0, b, u.2.2)).1)) _ (pnum cc n 0 (dNr d) (w0, s.1.2)).2 (s.2 ++ [(1, (pnum cc n 0 (dNr d) (w0, s.1.2)).1, 0, s.2.length + 1)]) (UO_nm hU) r1.1 (FRC_A frA (by decide)) (fun z => ?_) hQ _ _
      rw [r1.2 z]
      exact SCr_app hSC (OFF_A hOA) h4A ⟨h19, fun _ => sa_e _ _ _ _, fun y => absurd y (by show ¬ 1 = 3; decide), fun y => absurd y (by show ¬ 1 = 6; decide)⟩
    | 2, _ =>
      have hr : r = sgo cc n (dNs d) (dNr d) (dNp d) 2 (w0, s.1.2) s.2 := by
        rcases hcs with ⟨q, _⟩ | ⟨q, _⟩ | ⟨q, _⟩ | ⟨j, _, q, e⟩
        · rw [hk] at q; cases q
        · rw [hk] at q; cases q
        · rw [hk] at q; cases q
        · rw [hk] at q; cases q; exact e
      subst hr
      have r1 := UR_nm (cc := cc) (n := n) (lo := 0) (hi := dNs d) hur1 (by omega)
      refine J_iload (pc := 52) dX4_readStep_52 rfl ?_
      refine J_bipush (pc := 54) (v := 6) dX4_readStep_54 (by decide) ?_
      refine J_icmp_ne (pc := 56) (tgt := 71) dX4_readStep_56 (by decide) (fun c56 => ?_) (fun c56 => absurd c56 (by decide))
      refine J_iload (pc := 71) dX4_readStep_71 rfl ?_
      refine J_iconst (pc := 73) (v := 2) dX4_readStep_73 (by decide) ?_
      refine J_icmp_eq (pc := 74) (tgt := 83) dX4_readStep_74 (by decide) (fun c74 => ?_) (fun c74 => absurd rfl c74)
      refine J_aload_n (pc := 83) dX4_readStep_83 rfl ?_
      refine J_getr (pc := 84) dX4_readStep_84 kc4 fl_X4_15 rfl ?_
      refine J_iload (pc := 87) dX4_readStep_87 rfl ?_
      refine J_aload_n (pc := 89) dX4_readStep_89 rfl ?_
      refine J_iconst (pc := 90) (v := 0) dX4_readStep_90 (by decide) ?_
      refine J_aload_n (pc := 91) dX4_readStep_91 rfl ?_
      refine J_getiN (pc := 92) dX4_readStep_92 kc1 fl_X4_64 (by first | exact hou_i8 (by assumption) | rfl) ?_
      refine J_t1 (y := nI (dNs d)) ((ct_o h1).trans hHA.1) ?_
      refine J_iconst (pc := 95) (v := 1) dX4_readStep_95 (by decide) ?_
      refine J_isub (pc := 96) dX4_readStep_96 ?_
      refine J_cnr (pc := 97) (N := mX8_number) dX4_readStep_97 ml_X4_69 cf_X8_number cv_X8_number (r_X8_number (lo := 0) (hi := dNs d) hxA hU rfl rfl (by omega) (by omega)) rfl rfl (Nat.le_of_ble_eq_true rfl) (by omega) (rv_of (ci := 8) rfl rfl rfl) ?_
      refine J_is (pc := 100) dX4_readStep_100 rfl rfl ⟨hl37, by decide⟩ ?_
      rw [ct_A]
      refine J_goto (pc := 101) (tgt := 128) dX4_readStep_101 (by decide) ?_
      refine J_iload (pc := 128) dX4_readStep_128 rfl ?_
      refine J_iconst (pc := 130) (v := 3) dX4_readStep_130 (by decide) ?_
      refine J_icmp_ne (pc := 131) (tgt := 152) dX4_readStep_131 (by decide) (fun c131 => ?_) (fun c131 => absurd c131 (by decide))
      refine dem (sA Y1 20 s.2.length (ov (unm cc n 0 (dNs d) (w0, b, u.2.2)).1)) _ (pnum cc n 0 (dNs d) (w0, s.1.2)).2 (s.2 ++ [(2, (pnum cc n 0 (dNs d) (w0, s.1.2)).1, 0, s.2.length + 1)]) (UO_nm hU) r1.1 (FRC_A frA (by decide)) (fun z => ?_) hQ _ _
      rw [r1.2 z]
      exact SCr_app hSC (OFF_A hOA) h4A ⟨h19, fun _ => sa_e _ _ _ _, fun y => absurd y (by show ¬ 2 = 3; decide), fun y => absurd y (by show ¬ 2 = 6; decide)⟩
    | 3, _ =>
      have hr : r = sgo cc n (dNs d) (dNr d) (dNp d) 3 (w0, s.1.2) s.2 := by
        rcases hcs with ⟨q, _⟩ | ⟨q, _⟩ | ⟨q, _⟩ | ⟨j, _, q, e⟩
        · rw [hk] at q; cases q
        · rw [hk] at q; cases q
        · rw [hk] at q; cases q
        · rw [hk] at q; cases q; exact e
      subst hr
      have r1 := UR_nm (cc := cc) (n := n) (lo := 0) (hi := dNr d) hur1 (by omega)
      have r2 := UR_nm (cc := cc) (n := n) (lo := 0) (hi := dNp d) r1.1 (by omega)
      have frB : FRC wsF wsA S (sA Y1 20 s.2.length (ov (unm cc n 0 (dNr d) (w0, b, u.2.2)).1)) := FRC_A frA (by decide)
      have hxB := CTX_F frB (by decide) (by decide) hx
      have hHB := HC_F hHC frB (sc_H1 hHL) (sc_H2 hHL)
      refine J_iload (pc := 52) dX4_readStep_52 rfl ?_
      refine J_bipush (pc := 54) (v := 6) dX4_readStep_54 (by decide) ?_
      refine J_icmp_ne (pc := 56) (tgt := 71) dX4_readStep_56 (by decide) (fun c56 => ?_) (fun c56 => absurd c56 (by decide))
      refine J_iload (pc := 71) dX4_readStep_71 rfl ?_
      refine J_iconst (pc := 73) (v := 2) dX4_readStep_73 (by decide) ?_
      refine J_icmp_eq (pc := 74) (tgt := 83) dX4_readStep_74 (by decide) (fun c74 => absurd c74 (by decide)) (fun c74 => ?_)
      refine J_iload (pc := 77) dX4_readStep_77 rfl ?_
      refine J_iconst (pc := 79) (v := 4) dX4_readStep_79 (by decide) ?_
      refine J_icmp_ne (pc := 80) (tgt := 104) dX4_readStep_80 (by decide) (fun c80 => ?_) (fun c80 => absurd c80 (by decide))
      refine J_iload (pc := 104) dX4_readStep_104 rfl ?_
      refine J_iconst (pc := 106) (v := 5) dX4_readStep_106 (by decide) ?_
      refine J_icmp_eq (pc := 107) (tgt := 128) dX4_readStep_107 (by decide) (fun c107 => absurd c107 (by decide)) (fun c107 => ?_)
      refine J_aload_n (pc := 110) dX4_readStep_110 rfl ?_
      refine J_getr (pc := 111) dX4_readStep_111 kc4 fl_X4_15 rfl ?_
      refine J_iload (pc := 114) dX4_readStep_114 rfl ?_
      refine J_aload_n (pc := 116) dX4_readStep_116 rfl ?_
      refine J_iconst (pc := 117) (v := 0) dX4_readStep_117 (by decide) ?_
      refine J_aload_n (pc := 118) dX4_readStep_118 rfl ?_
      refine J_getiN (pc := 119) dX4_readStep_119 kc1 fl_X4_73 (by first | exact hou_i9 (by assumption) | rfl) ?_
      refine J_t1 (y := nI (dNr d)) ((ct_o h1).trans hHA.2.1) ?_
      refine J_iconst (pc := 122) (v := 1) dX4_readStep_122 (by decide) ?_
      refine J_isub (pc := 123) dX4_readStep_123 ?_
      refine J_cnr (pc := 124) (N := mX8_number) dX4_readStep_124 ml_X4_69 cf_X8_number cv_X8_number (r_X8_number (lo := 0) (hi := dNr d) hxA hU rfl rfl (by omega) (by omega)) rfl rfl (Nat.le_of_ble_eq_true rfl) (by omega) (rv_of (ci := 8) rfl rfl rfl) ?_
      refine J_is (pc := 127) dX4_readStep_127 rfl rfl ⟨hl37, by decide⟩ ?_
      rw [ct_A]
      refine J_iload (pc := 128) dX4_readStep_128 rfl ?_
      refine J_iconst (pc := 130) (v := 3) dX4_readStep_130 (by decide) ?_
      refine J_icmp_ne (pc := 131) (tgt := 152) dX4_readStep_131 (by decide) (fun c131 => absurd rfl c131) (fun c131 => ?_)
      refine J_aload_n (pc := 134) dX4_readStep_134 rfl ?_
      refine J_getr (pc := 135) dX4_readStep_135 kc4 fl_X4_18 rfl ?_
      refine J_iload (pc := 138) dX4_readStep_138 rfl ?_
      refine J_aload_n (pc := 140) dX4_readStep_140 rfl ?_
      refine J_iconst (pc := 141) (v := 0) dX4_readStep_141 (by decide) ?_
      refine J_aload_n (pc := 142) dX4_readStep_142 rfl ?_
      refine J_getiN (pc := 143) dX4_readStep_143 kc1 fl_X4_76 (by first | exact hou_i10 (by assumption) | rfl) ?_
      refine J_t1 (y := nI (dNp d)) ((ct_o h1).trans hHB.2.2.1) ?_
      refine J_iconst (pc := 146) (v := 1) dX4_readStep_146 (by decide) ?_
      refine J_isub (pc := 147) dX4_readStep_147 ?_
      refine J_cnr (pc := 148) (N := mX8_number) dX4_readStep_148 ml_X4_69 cf_X8_number cv_X8_number (r_X8_number (lo := 0) (hi := dNp d) hxB (UO_nm hU) rfl rfl (by omega) (by omega)) rfl rfl (Nat.le_of_ble_eq_true rfl) (by omega) (rv_of (ci := 8) rfl rfl rfl) ?_
      refine J_is (pc := 151) dX4_readStep_151 rfl rfl ⟨hl37, by decide⟩ ?_
      rw [ct_A]
      refine dem (sA (sA Y1 20 s.2.length (ov (unm cc n 0 (dNr d) (w0, b, u.2.2)).1)) 21 s.2.length (ov (unm cc n 0 (dNp d) (unm cc n 0 (dNr d) (w0, b, u.2.2)).2).1)) _ (pnum cc n 0 (dNp d) (pnum cc n 0 (dNr d) (w0, s.1.2)).2).2 (s.2 ++ [(3, (pnum cc n 0 (dNr d) (w0, s.1.2)).1, (pnum cc n 0 (dNp d) (pnum cc n 0 (dNr d) (w0, s.1.2)).2).1, s.2.length + 1)]) (UO_nm (UO_nm hU)) r2.1 (FRC_A frB (by decide)) (fun z => ?_) hQ _ _
      have z1 : (pnum cc n 0 (dNr d) (w0, s.1.2)).2.2.1 = 0 := (pnum_ok hn9 (PO_num hT hp0 0 (dNr d)).1 z).1
      rw [r1.2 z1, r2.2 z]
      exact SCr_app hSC (OFF_A (OFF_A hOA)) h4A ⟨h19, fun _ => (sa_o (by decide) _).trans (sa_e _ _ _ _), fun _ => sa_e _ _ _ _, fun y => absurd y (by show ¬ 3 = 6; decide)⟩
    | 4, _ =>
      have hr : r = sgo cc n (dNs d) (dNr d) (dNp d) 4 (w0, s.1.2) s.2 := by
        rcases hcs with ⟨q, _⟩ | ⟨q, _⟩ | ⟨q, _⟩ | ⟨j, _, q, e⟩
        · rw [hk] at q; cases q
        · rw [hk] at q; cases q
        · rw [hk] at q; cases q
        · rw [hk] at q; cases q; exact e
      subst hr
      have r1 := UR_nm (cc := cc) (n := n) (lo := 0) (hi := dNs d) hur1 (by omega)
      refine J_iload (pc := 52) dX4_readStep_52 rfl ?_
      refine J_bipush (pc := 54) (v := 6) dX4_readStep_54 (by decide) ?_
      refine J_icmp_ne (pc := 56) (tgt := 71) dX4_readStep_56 (by decide) (fun c56 => ?_) (fun c56 => absurd c56 (by decide))
      refine J_iload (pc := 71) dX4_readStep_71 rfl ?_
      refine J_iconst (pc := 73) (v := 2) dX4_readStep_73 (by decide) ?_
      refine J_icmp_eq (pc := 74) (tgt := 83) dX4_readStep_74 (by decide) (fun c74 => absurd c74 (by decide)) (fun c74 => ?_)
      refine J_iload (pc := 77) dX4_readStep_77 rfl ?_
      refine J_iconst (pc := 79) (v := 4) dX4_readStep_79 (by decide) ?_
      refine J_icmp_ne (pc := 80) (tgt := 104) dX4_readStep_80 (by decide) (fun c80 => absurd rfl c80) (fun c80 => ?_)
      refine J_aload_n (pc := 83) dX4_readStep_83 rfl ?_
      refine J_getr (pc := 84) dX4_readStep_84 kc4 fl_X4_15 rfl ?_
      refine J_iload (pc := 87) dX4_readStep_87 rfl ?_
      refine J_aload_n (pc := 89) dX4_readStep_89 rfl ?_
      refine J_iconst (pc := 90) (v := 0) dX4_readStep_90 (by decide) ?_
      refine J_aload_n (pc := 91) dX4_readStep_91 rfl ?_
      refine J_getiN (pc := 92) dX4_readStep_92 kc1 fl_X4_64 (by first | exact hou_i8 (by assumption) | rfl) ?_
      refine J_t1 (y := nI (dNs d)) ((ct_o h1).trans hHA.1) ?_
      refine J_iconst (pc := 95) (v := 1) dX4_readStep_95 (by decide) ?_
      refine J_isub (pc := 96) dX4_readStep_96 ?_
      refine J_cnr (pc := 97) (N := mX8_number) dX4_readStep_97 ml_X4_69 cf_X8_number cv_X8_number (r_X8_number (lo := 0) (hi := dNs d) hxA hU rfl rfl (by omega) (by omega)) rfl rfl (Nat.le_of_ble_eq_true rfl) (by omega) (rv_of (ci := 8) rfl rfl rfl) ?_
      refine J_is (pc := 100) dX4_readStep_100 rfl rfl ⟨hl37, by decide⟩ ?_
      rw [ct_A]
      refine J_goto (pc := 101) (tgt := 128) dX4_readStep_101 (by decide) ?_
      refine J_iload (pc := 128) dX4_readStep_128 rfl ?_
      refine J_iconst (pc := 130) (v := 3) dX4_readStep_130 (by decide) ?_
      refine J_icmp_ne (pc := 131) (tgt := 152) dX4_readStep_131 (by decide) (fun c131 => ?_) (fun c131 => absurd c131 (by decide))
      refine dem (sA Y1 20 s.2.length (ov (unm cc n 0 (dNs d) (w0, b, u.2.2)).1)) _ (pnum cc n 0 (dNs d) (w0, s.1.2)).2 (s.2 ++ [(4, (pnum cc n 0 (dNs d) (w0, s.1.2)).1, 0, s.2.length + 1)]) (UO_nm hU) r1.1 (FRC_A frA (by decide)) (fun z => ?_) hQ _ _
      rw [r1.2 z]
      exact SCr_app hSC (OFF_A hOA) h4A ⟨h19, fun _ => sa_e _ _ _ _, fun y => absurd y (by show ¬ 4 = 3; decide), fun y => absurd y (by show ¬ 4 = 6; decide)⟩
    | 5, _ =>
      have hr : r = sgo cc n (dNs d) (dNr d) (dNp d) 5 (w0, s.1.2) s.2 := by
        rcases hcs with ⟨q, _⟩ | ⟨q, _⟩ | ⟨q, _⟩ | ⟨j, _, q, e⟩
        · rw [hk] at q; cases q
        · rw [hk] at q; cases q
        · rw [hk] at q; cases q
        · rw [hk] at q; cases q; exact e
      subst hr
      refine J_iload (pc := 52) dX4_readStep_52 rfl ?_
      refine J_bipush (pc := 54) (v := 6) dX4_readStep_54 (by decide) ?_
      refine J_icmp_ne (pc := 56) (tgt := 71) dX4_readStep_56 (by decide) (fun c56 => ?_) (fun c56 => absurd c56 (by decide))
      refine J_iload (pc := 71) dX4_readStep_71 rfl ?_
      refine J_iconst (pc := 73) (v := 2) dX4_readStep_73 (by decide) ?_
      refine J_icmp_eq (pc := 74) (tgt := 83) dX4_readStep_74 (by decide) (fun c74 => absurd c74 (by decide)) (fun c74 => ?_)
      refine J_iload (pc := 77) dX4_readStep_77 rfl ?_
      refine J_iconst (pc := 79) (v := 4) dX4_readStep_79 (by decide) ?_
      refine J_icmp_ne (pc := 80) (tgt := 104) dX4_readStep_80 (by decide) (fun c80 => ?_) (fun c80 => absurd c80 (by decide))
      refine J_iload (pc := 104) dX4_readStep_104 rfl ?_
      refine J_iconst (pc := 106) (v := 5) dX4_readStep_106 (by decide) ?_
      refine J_icmp_eq (pc := 107) (tgt := 128) dX4_readStep_107 (by decide) (fun c107 => ?_) (fun c107 => absurd rfl c107)
      refine J_iload (pc := 128) dX4_readStep_128 rfl ?_
      refine J_iconst (pc := 130) (v := 3) dX4_readStep_130 (by decide) ?_
      refine J_icmp_ne (pc := 131) (tgt := 152) dX4_readStep_131 (by decide) (fun c131 => ?_) (fun c131 => absurd c131 (by decide))
      refine dem Y1 _ (w0, s.1.2) (s.2 ++ [(5, 0, 0, s.2.length + 1)]) hU hur1 frA (fun _ => SCr_app hSC hOA h4A ⟨h19, fun y => absurd rfl y, fun y => absurd y (by show ¬ 5 = 3; decide), fun y => absurd y (by show ¬ 5 = 6; decide)⟩) hQ _ _
    | 6, _ =>
      by_cases q6 : op = 6
      · have hr : r = ((b, 3, b), s.2) := by
          rcases hcs with ⟨q, _⟩ | ⟨q, _, e⟩ | ⟨q, z, _⟩ | ⟨j, j6, q, _⟩
          · rw [hk] at q; cases q
          · exact e
          · exact absurd q6 z
          · rw [hk] at q; cases q; exact absurd j6 (by decide)
        subst hr
        refine J_iload (pc := 52) dX4_readStep_52 rfl ?_
        refine J_bipush (pc := 54) (v := 6) dX4_readStep_54 (by decide) ?_
        refine J_icmp_ne (pc := 56) (tgt := 71) dX4_readStep_56 (by decide) (fun c56 => absurd rfl c56) (fun c56 => ?_)
        refine J_aload_n (pc := 59) dX4_readStep_59 rfl ?_
        refine J_aload_n (pc := 60) dX4_readStep_60 rfl ?_
        refine J_aload_n (pc := 61) dX4_readStep_61 rfl ?_
        refine J_iload_n (pc := 62) dX4_readStep_62 rfl ?_
        refine J_iload (pc := 63) dX4_readStep_63 rfl ?_
        refine J_cvU (pc := 65) (N := mX4_readAgain) dX4_readStep_65 ml_X4_60 cf_X4_readAgain cv_X4_readAgain (c_readAgain6 (l := s.2) hU u0 hle q6) rfl rfl (Nat.le_of_ble_eq_true rfl) (by omega) (rv_of (ci := 4) rfl rfl rfl) ?_
        intro X65 hX65
        refine J_goto (pc := 68) (tgt := 128) dX4_readStep_68 (by decide) ?_
        refine J_iload (pc := 128) dX4_readStep_128 rfl ?_
        refine J_iconst (pc := 130) (v := 3) dX4_readStep_130 (by decide) ?_
        refine J_icmp_ne (pc := 131) (tgt := 152) dX4_readStep_131 (by decide) (fun c131 => ?_) (fun c131 => absurd c131 (by decide))
        obtain ⟨Y2, u2, rfl, hu2, hur2, hfr2, hsc2⟩ := hX65
        refine dem Y2 u2 (b, 3, b) s.2 hu2 hur2 (FRC_t frA hfr2) (fun z => absurd z (Nat.succ_ne_zero 2)) (fun X hX => hQ X ?_) _ _
        rw [show psg cc n 59 (b, 3, b) = (b, 3, b) from if_pos (Nat.succ_ne_zero 2)] at hX
        exact hX
      · obtain ⟨s1, e1, er⟩ : ∃ s1, rs cc n (dNs d) (dNr d) (dNp d) f 1 (op + 1) (ag1 cc n (w0, s.1.2) s.2) = some s1 ∧ r = ag2 cc n s.2.length (pnum cc n 0 41 (w0, s.1.2)).1 s1 := by
          rcases hcs with ⟨q, _⟩ | ⟨q, z, e⟩ | ⟨q, z, e⟩ | ⟨j, j6, q, _⟩
          · rw [hk] at q; cases q
          · exact absurd z q6
          · exact e
          · rw [hk] at q; cases q; exact absurd j6 (by decide)
        subst er
        have I1 : RSI n (ag1 cc n (w0, s.1.2) s.2) := by
          have := RST_ag1 hT hI.1 hs0 (by rw [hb]; exact hk)
          rw [hb, hw0] at this
          exact RST_I this hI
        refine J_iload (pc := 52) dX4_readStep_52 rfl ?_
        refine J_bipush (pc := 54) (v := 6) dX4_readStep_54 (by decide) ?_
        refine J_icmp_ne (pc := 56) (tgt := 71) dX4_readStep_56 (by decide) (fun c56 => absurd rfl c56) (fun c56 => ?_)
        refine J_aload_n (pc := 59) dX4_readStep_59 rfl ?_
        refine J_aload_n (pc := 60) dX4_readStep_60 rfl ?_
        refine J_aload_n (pc := 61) dX4_readStep_61 rfl ?_
        refine J_iload_n (pc := 62) dX4_readStep_62 rfl ?_
        refine J_iload (pc := 63) dX4_readStep_63 rfl ?_
        refine J_cvU (pc := 65) (N := mX4_readAgain) dX4_readStep_65 ml_X4_60 cf_X4_readAgain cv_X4_readAgain (c_readAgain h150 i1 hxA hHL hHA hv (show op < 6 by omega) hU hur1 hp0 hs0 hl37 I1 h4A (fun i hi => SCq_o hOA (by omega) (hSC.2 i hi)) h19 e1) rfl rfl (Nat.le_of_ble_eq_true rfl) (by omega) (rv_of (ci := 4) rfl rfl rfl) ?_
        intro X65 hX65
        refine J_goto (pc := 68) (tgt := 128) dX4_readStep_68 (by decide) ?_
        refine J_iload (pc := 128) dX4_readStep_128 rfl ?_
        refine J_iconst (pc := 130) (v := 3) dX4_readStep_130 (by decide) ?_
        refine J_icmp_ne (pc := 131) (tgt := 152) dX4_readStep_131 (by decide) (fun c131 => ?_) (fun c131 => absurd c131 (by decide))
        obtain ⟨Y2, u2, rfl, hu2, hur2, hfr2, hsc2⟩ := hX65
        exact dem Y2 u2 (psg cc n 93 s1.1) (s1.2.set s.2.length (6, (pnum cc n 0 41 (w0, s.1.2)).1, 0, s1.2.length)) hu2 hur2 (FRC_t frA hfr2) hsc2 hQ _ _
theorem WP_all {g : Gp} {n : Nat} {cc : Nat → Nat} {d : HD} (h150 : n ≤ 150) : ∀ f, WP0 g n cc d f ∧ WP1 g n cc d f
  | 0 => ⟨fun S op a s r u _ _ _ _ _ _ _ _ _ _ h => (nomatch h), fun S Y op a i s r u x sz Q _ _ _ _ _ _ _ _ _ _ h => (nomatch h)⟩
  | f + 1 => by
    obtain ⟨i0, i1⟩ := WP_all h150 f
    exact ⟨wp_s0 h150 i1, wp_s1 h150 i0 i1⟩
theorem r_X4_read {g : Gp} {S : Sx} {n : Nat} {cc : Nat → Nat} (hx : CTX S n cc) {u : UT} (hu : UO n u) (h150 : n ≤ 150) (h0 : u.1 = 0) (hf0 : u.2.2.1 = 0) {a : Nat} {d : HD} (hHL : HLa a) (hHC : HC S a d) (hv : HV d) {f : Nat} {r : WS} (hr : rs cc n (dNs d) (dNr d) (dNp d) f 1 0 ((pbl cc n 0, 0, 0), []) = some r) : RU g mX4_read 27 [.ref 18, .ref 1, .ref a] (ct S u) (fun X => ∃ Y' u', X = ct Y' u' ∧ UO n u' ∧ UR u' r.1 ∧ FRC wsG wsA S Y' ∧ (r.1.2.1 = 0 → SCr Y' r.2) ∧ sf Y' 18 5 = 0 ∧ sf Y' 18 6 = 0 ∧ sf Y' 18 7 = 0) := by
  refine RU_ofQ ⟨rfl, rfl⟩ (Nat.le_of_ble_eq_true rfl) (fun sz Q hQ => ?_)
  have fr0 : FRC wsG wsA S (sF (sF (sF (sF S 18 4 0) 18 5 0) 18 6 0) 18 7 0) := FRC_F (FRC_F (FRC_F (FRC_F (FRC_r _ _ _) (by decide)) (by decide)) (by decide)) (by decide)
  have hx0 := CTX_F fr0 (by decide) (by decide) hx
  have hH0 := HC_F hHC fr0 (fun k h1 h2 => decide_eq_false (fun z => by omega)) (sc_H2 hHL)
  refine J_aload_n (pc := 0) dX4_read_0 rfl ?_
  refine J_iconst (pc := 1) (v := 0) dX4_read_1 (by decide) ?_
  refine J_puti (pc := 2) dX4_read_2 kc4 fl_X4_24 rfl ⟨rfl, rfl⟩ ?_
  refine J_aload_n (pc := 5) dX4_read_5 rfl ?_
  refine J_iconst (pc := 6) (v := 0) dX4_read_6 (by decide) ?_
  refine J_puti (pc := 7) dX4_read_7 kc4 fl_X4_28 rfl ⟨rfl, rfl⟩ ?_
  refine J_aload_n (pc := 10) dX4_read_10 rfl ?_
  refine J_iconst (pc := 11) (v := 0) dX4_read_11 (by decide) ?_
  refine J_puti (pc := 12) dX4_read_12 kc4 fl_X4_31 rfl ⟨rfl, rfl⟩ ?_
  refine J_aload_n (pc := 15) dX4_read_15 rfl ?_
  refine J_iconst (pc := 16) (v := 0) dX4_read_16 (by decide) ?_
  refine J_puti (pc := 17) dX4_read_17 kc4 fl_X4_34 rfl ⟨rfl, rfl⟩ ?_
  rw [ct_F (by decide), ct_F (by decide), ct_F (by decide), ct_F (by decide)]
  refine J_aload_n (pc := 20) dX4_read_20 rfl ?_
  refine J_aload_n (pc := 21) dX4_read_21 rfl ?_
  refine J_aload_n (pc := 22) dX4_read_22 rfl ?_
  refine J_iconst (pc := 23) (v := 0) dX4_read_23 (by decide) ?_
  refine J_cvU (pc := 24) (N := mX4_readSteps) dX4_read_24 ml_X4_37 cf_X4_readSteps cv_X4_readSteps (c_readSteps (op := 0) (s := ((pbl cc n 0, 0, 0), [])) (WP_all h150 f).2 hx0 hHL hH0 hv (by decide) hu ⟨hf0, fun z => absurd rfl z, fun _ => by show pbl cc n u.1 = pbl cc n 0; rw [h0]⟩ ⟨⟨pbl_le cc (Nat.zero_le n), Nat.zero_le 3, Nat.zero_le n⟩, fun _ => Nat.zero_le _⟩ (fun _ => ⟨rfl, fun i hi => absurd hi (Nat.not_lt_zero i)⟩) hr) rfl rfl (Nat.le_of_ble_eq_true rfl) (by decide) (rv_of (ci := 4) rfl rfl rfl) ?_
  intro X24 hX24
  obtain ⟨Y2, u2, rfl, hu2, hur2, hfr2, hsc2⟩ := hX24
  exact J_ret (pc := 27) rfl rfl dX4_read_27 (hQ _ ⟨Y2, u2, rfl, hu2, hur2, FRC_t fr0 (ws_G hfr2), hsc2, hfr2.1.1 18 5 (by decide), hfr2.1.1 18 6 (by decide), hfr2.1.1 18 7 (by decide)⟩)
