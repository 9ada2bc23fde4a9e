/-! ===== what was seen is read ===== -/
def sgF (q : Nat) (x k : Nat) : Bool := decide (x = q ∧ k = 1)
def sgA (q : Nat) (x : Nat) : Bool := decide (x = q + 1)
theorem sgF_t (q : Nat) : sgF q q 1 = true := decide_eq_true ⟨rfl, rfl⟩
theorem sgA_t (q : Nat) : sgA q (q + 1) = true := decide_eq_true rfl
theorem SLa_1 {q : Nat} (h : SLa q) : q ≠ 1 := by rcases h with rfl | rfl <;> decide
theorem sgF_1 {q : Nat} (h : SLa q) : sgF q 1 2 = false := by rcases h with rfl | rfl <;> decide
theorem sgA_2 {q : Nat} (h : SLa q) : sgA q 2 = false := by rcases h with rfl | rfl <;> decide
theorem HC_c {S X : Sx} {a : Nat} {d : HD} (h : HC S a d) (h1 : ∀ k, 8 ≤ k → k ≤ 10 → sf X a k = sf S a k) (h2 : ∀ i, 1 ≤ i → i ≤ 8 → sa X (a + i) = sa S (a + i)) : HC X a d := by
  unfold HC
  rw [h1 8 (by decide) (by decide), h1 9 (by decide) (by decide), h1 10 (by decide) (by decide), h2 1 (by decide) (by decide), h2 2 (by decide) (by decide), h2 3 (by decide) (by decide), h2 4 (by decide) (by decide), h2 5 (by decide) (by decide), h2 6 (by decide) (by decide), h2 7 (by decide) (by decide), h2 8 (by decide) (by decide)]
  exact h
theorem HC_F {F : Nat → Nat → Bool} {A : Nat → Bool} {S X : Sx} {a : Nat} {d : HD} (h : HC S a d) (hf : FRC F A S X) (h1 : ∀ k, 8 ≤ k → k ≤ 10 → F a k = false) (h2 : ∀ i, 1 ≤ i → i ≤ 8 → A (a + i) = false) : HC X a d := HC_c h (fun k a1 a2 => hf.1.1 a k (h1 k a1 a2)) (fun i a1 a2 => hf.1.2.2 (a + i) (h2 i a1 a2))
theorem sg_H1 {q a : Nat} (hq : SLa q) (ha : HLa a) : ∀ k, 8 ≤ k → k ≤ 10 → sgF q a k = false := fun k h1 h2 => decide_eq_false (fun z => by omega)
theorem sg_H2 {q a : Nat} (hq : SLa q) (ha : HLa a) : ∀ i, 1 ≤ i → i ≤ 8 → sgA q (a + i) = false := fun i h1 h2 => decide_eq_false (fun z => by rcases hq with rfl | rfl <;> rcases ha with rfl | rfl <;> omega)
theorem lnV_n {l : List (Nat × Nat)} {r nr : Nat} (h : SV nr l) : lnV l r = -1 ↔ ¬ l.any (fun q => q.1 == r) = true := by
  unfold lnV
  cases e : l.find? (fun q => q.1 == r) with
  | none =>
    refine ⟨fun _ z => ?_, fun _ => rfl⟩
    obtain ⟨q, h1, h2⟩ := List.any_eq_true.mp z
    exact absurd h2 (List.find?_eq_none.mp e q h1)
  | some q =>
    have h1 := List.mem_of_find?_eq_some e
    have h2 := List.find?_some e
    have := (h.2 q h1).2
    exact ⟨fun z => absurd z (nI_nm (k := q.2) (by omega)), fun z => absurd (List.any_eq_true.mpr ⟨q, h1, h2⟩) z⟩
theorem lnV_a {l : List (Nat × Nat)} {r v : Nat} (h : ¬ l.any (fun q => q.1 == r) = true) (k : Nat) : lnV (l ++ [(r, v)]) k = if k = r then nI v else lnV l k := by
  unfold lnV
  rw [List.find?_append]
  by_cases e : k = r
  · subst e
    have : l.find? (fun q => q.1 == k) = none := List.find?_eq_none.mpr (fun q hq z => h (List.any_eq_true.mpr ⟨q, hq, z⟩))
    rw [this, if_pos rfl]
    simp
  · rw [if_neg e]
    cases l.find? (fun q => q.1 == k) with
    | some q => rfl
    | none =>
      have : ([(r, v)] : List (Nat × Nat)).find? (fun q => q.1 == k) = none := by
        rw [List.find?_cons_of_neg (by simpa using fun z => e z.symm)]
        rfl
      rw [this]
      rfl
theorem r_X6_clear {g : Gp} {S : Sx} {q : Nat} (hq : SLa q) : RU g mX6_clear 0 [.ref q] S (fun X => FRC (sgF q) (sgA q) S X ∧ SC X q []) := by
  refine RU_ofQ ⟨rfl, rfl⟩ (Nat.le_of_ble_eq_true rfl) (fun sz Q hQ => ?_)
  refine J_aload_n (pc := 0) dX6_clear_0 rfl ?_
  refine J_iconst (pc := 1) (v := 0) dX6_clear_1 (by decide) ?_
  refine J_puti (pc := 2) dX6_clear_2 kc6 fl_X6_18 (by first | exact sgt_i1 (by assumption) | rfl) ⟨rfl, rfl⟩ ?_
  refine J_iconst (pc := 5) (v := 0) dX6_clear_5 (by decide) ?_
  refine J_istore_n (pc := 6) dX6_clear_6 (by decide) rfl ?_
  have key : ∀ m i X, i + m = 10 → FRC (sgF q) (sgA q) S X → sf X q 1 = 0 → (∀ r, r < i → sa X (q + 1) r = -1) → J g mX6_clear 0 [] 7 [some (.ref q), some (.int (nI i))] [] (hs X) sz 0 0 Q := by
    intro m
    induction m with
    | zero =>
      intro i X hm hf h0 hr
      have hi : i = 10 := by omega
      subst hi
      refine J_iload_n (pc := 7) dX6_clear_7 rfl ?_
      refine J_aload_n (pc := 8) dX6_clear_8 rfl ?_
      refine J_getr (pc := 9) dX6_clear_9 kc6 fl_X6_9 (by first | exact sgt_r0 (by assumption) | rfl) ?_
      refine J_al (pc := 12) dX6_clear_12 (sgt_a0 hq) (by decide) rfl ?_
      refine J_icmp_ge (pc := 13) (tgt := 29) dX6_clear_13 (by decide) (fun c13 => ?_) (fun c13 => absurd (Int32.le_refl _) c13)
      exact J_ret (pc := 29) rfl rfl dX6_clear_29 (hQ _ ⟨hf, h0, fun r h10 => hr r h10⟩)
    | succ m ih =>
      intro i X hm hf h0 hr
      refine J_iload_n (pc := 7) dX6_clear_7 rfl ?_
      refine J_aload_n (pc := 8) dX6_clear_8 rfl ?_
      refine J_getr (pc := 9) dX6_clear_9 kc6 fl_X6_9 (by first | exact sgt_r0 (by assumption) | rfl) ?_
      refine J_al (pc := 12) dX6_clear_12 (sgt_a0 hq) (by decide) rfl ?_
      refine J_icmp_ge (pc := 13) (tgt := 29) dX6_clear_13 (by decide) (fun c13 => absurd c13 (nI_ge (b := 10) (by omega) (by decide))) (fun c13 => ?_)
      refine J_aload_n (pc := 16) dX6_clear_16 rfl ?_
      refine J_getr (pc := 17) dX6_clear_17 kc6 fl_X6_9 (by first | exact sgt_r0 (by assumption) | rfl) ?_
      refine J_iload_n (pc := 20) dX6_clear_20 rfl ?_
      refine J_iconst (pc := 21) (v := -1) dX6_clear_21 (by decide) ?_
      refine J_is (pc := 22) dX6_clear_22 (sgt_a0 hq) rfl ⟨by omega, by decide⟩ ?_
      refine J_iinc (pc := 23) (v := 1) dX6_clear_23 rfl (by decide) rfl ?_
      rw [nI_1]
      refine J_goto (pc := 26) (tgt := 7) dX6_clear_26 (by decide) ?_
      refine ih (i + 1) _ (by omega) (FRC_A hf (sgA_t q)) h0 (fun r hr1 => ?_)
      by_cases e : r = i
      · subst e; exact sa_e _ _ _ _
      · rw [sa_n e]; exact hr r (by omega)
  exact key 10 0 _ rfl (FRC_F (FRC_r _ _ _) (sgF_t q)) sF_s (fun r hr => absurd hr (Nat.not_lt_zero r))
def SRd (S : Sx) (q n : Nat) (r : SNS) (X : Sx) : Prop := ∃ Y' u', X = ct Y' u' ∧ UO n u' ∧ UR u' r.1 ∧ FRC (sgF q) (sgA q) S Y' ∧ (r.1.2.1 = 0 → SC Y' q r.2)
theorem unm_tk {cc : Nat → Nat} {n lo hi : Nat} {u : UT} : (unm cc n lo hi u).2.2.1 = pbl cc n u.1 := by
  unfold unm um
  split
  · split
    · rfl
    · split <;> rfl
  · split <;> rfl
theorem unm_n {cc : Nat → Nat} {n lo hi : Nat} {u : UT} (h0 : u.2.2.1 = 0) (h : ¬ (unm cc n lo hi u).2.2.2.1 = 0) : (unm cc n lo hi u).1 = none := by
  unfold unm at h ⊢
  split at h
  · next q1 =>
    rw [if_pos q1]
    split at h
    · exact absurd h0 h
    · next q => rw [if_neg q]
  · next q1 => rw [if_neg q1]
theorem r_X6_readLine {g : Gp} {S : Sx} {n : Nat} {cc : Nat → Nat} (hx : CTX S n cc) {u : UT} (hu : UO n u) {s : SNS} (hur : UR u s.1) (hs0 : s.1.2.1 = 0) (hpo : PO n s.1) (hpb : pbl cc n s.1.1 = s.1.1) {q a : Nat} {d : HD} (hq : SLa q) (hHL : HLa a) (hHC : HC S a d) (hv : HV d) (hSC : SC S q s.2) (hSV : SV (dNr d) s.2) : RU g mX6_readLine 3 [.ref q, .ref 1, .ref a] (ct S u) (SRd S q n (snC cc n (dNr d) s)) := by
  refine RU_ofQ ⟨rfl, rfl⟩ (Nat.le_of_ble_eq_true rfl) (fun sz Q hQ => ?_)
  have h1 := HLa_1 hHL
  have hq1 := SLa_1 hq
  have n2 : dNr d ≤ 10 := hv.2.1
  have hs9 : ∀ u, sf (ct S u) a 9 = nI (dNr d) := fun u => (ct_o h1).trans hHC.2.1
  have eu : u.1 = s.1.1 := hur.2.2 hs0
  have u0 := UR_0 hur hs0
  have hn9 := hx.2.2.2 n (Nat.le_refl _)
  obtain ⟨S', hT⟩ := TX_of hx
  have r1 := UR_nm (cc := cc) (n := n) (lo := 0) (hi := dNr d) hur (by omega)
  have hC : snC cc n (dNr d) s = snC cc n (dNr d) s := rfl
  conv at hC => rhs; unfold snC
  obtain ⟨a1, ha⟩ : ∃ a, a = pnum cc n 0 (dNr d) s.1 := ⟨_, rfl⟩
  have pa : PO n a1.2 := by rw [ha]; exact PO_num hT hpo 0 _
  rw [← ha] at hC r1
  obtain ⟨t1, ht1⟩ : ∃ t, t = (if a1.2.2.1 = 0 ∧ s.2.any (fun q => q.1 == a1.1) = true then ((a1.2.1, 2, s.1.1) : PT) else a1.2) := ⟨_, rfl⟩
  simp only [← ht1] at hC
  obtain ⟨b1, hb⟩ : ∃ b, b = pnum cc n 0 100 t1 := ⟨_, rfl⟩
  simp only [← hb] at hC
  rw [hC] at hQ
  have uA : UO n (unm cc n 0 (dNr d) u).2 := UO_nm hu
  have htok : (unm cc n 0 (dNr d) u).2.2.1 = s.1.1 := by rw [unm_tk, eu, hpb]
  have p1 : PO n t1 := by
    rw [ht1]
    split
    · exact ⟨pa.1, by show 2 ≤ 3; omega, hpo.1⟩
    · exact pa
  have tail : ∀ rr v, UO n v → UR v t1 → rr < dNr d → (t1.2.1 = 0 → rr = a1.1 ∧ ¬ s.2.any (fun q => q.1 == a1.1) = true) → J g mX6_readLine 3 [] 40 [some (.ref q), some (.ref 1), some (.ref a), some (.int (nI rr))] [] (hs (ct S v)) sz 0 0 Q := by
    intro rr v hv1 hvr hrr hok
    have r2 := UR_nm (cc := cc) (n := n) (lo := 0) (hi := 100) hvr (by decide)
    rw [← hb] at r2
    refine J_aload_n (pc := 40) dX6_readLine_40 rfl ?_
    refine J_getr (pc := 41) dX6_readLine_41 kc6 fl_X6_9 (by first | exact sgt_r0 (by assumption) | rfl) ?_
    refine J_iload_n (pc := 44) dX6_readLine_44 rfl ?_
    refine J_aload_n (pc := 45) dX6_readLine_45 rfl ?_
    refine J_iconst (pc := 46) (v := 0) dX6_readLine_46 (by decide) ?_
    refine J_bipush (pc := 47) (v := 99) dX6_readLine_47 (by decide) ?_
    refine J_cnr (pc := 49) (N := mX8_number) dX6_readLine_49 ml_X6_41 cf_X8_number cv_X8_number (r_X8_number (lo := 0) (hi := 100) hx hv1 rfl rfl (by decide) (by decide)) rfl rfl (Nat.le_of_ble_eq_true rfl) (by decide) (rv_of (ci := 8) rfl rfl rfl) ?_
    refine J_is (pc := 52) dX6_readLine_52 (sgt_a0 hq) rfl ⟨Nat.lt_of_lt_of_le hrr n2, by decide⟩ ?_
    rw [ct_A]
    refine J_aload_n (pc := 53) dX6_readLine_53 rfl ?_
    refine J_dup (pc := 54) dX6_readLine_54 rfl ?_
    refine J_geti (pc := 55) dX6_readLine_55 kc6 fl_X6_18 (by first | exact sgt_i1 (by assumption) | rfl) ?_
    refine J_iconst (pc := 58) (v := 1) dX6_readLine_58 (by decide) ?_
    refine J_iadd (pc := 59) dX6_readLine_59 ?_
    refine J_puti (pc := 60) dX6_readLine_60 kc6 fl_X6_18 (by first | exact sgt_i1 (by assumption) | rfl) ⟨rfl, rfl⟩ ?_
    rw [ct_F hq1]
    have hfr : FRC (sgF q) (sgA q) S _ := FRC_F (FRC_A (FRC_r _ _ S) (sgA_t q) (k := rr) (v := ov (unm cc n 0 100 v).1)) (sgF_t q) (v := sf (ct (sA S (q + 1) rr (ov (unm cc n 0 100 v).1)) (unm cc n 0 100 v).2) q 1 + 1)
    have hx2 := CTX_F hfr (sgF_1 hq) (sgA_2 hq) hx
    refine J_aload_n (pc := 63) dX6_readLine_63 rfl ?_
    refine J_bipush (pc := 64) (v := 59) dX6_readLine_64 (by decide) ?_
    refine J_cnv (pc := 66) (N := mX8_demand) dX6_readLine_66 ml_X6_56 cf_X8_demand cv_X8_demand (r_X8_demand (c := 59) hx2 (UO_nm hv1) (by decide)) rfl rfl (Nat.le_of_ble_eq_true rfl) (by decide) (rv_of (ci := 8) rfl rfl rfl) ?_
    exact J_ret rfl rfl dX6_readLine_69 (hQ _ ⟨_, _, rfl, UO_dm hx2 (UO_nm hv1) (by decide), UR_dm r2.1, hfr, fun z => by
      have z : (psg cc n 59 b1.2).2.1 = 0 := z
      have z2 := (psg_ok z).1
      have z3 : t1.2.1 = 0 := by rw [hb] at z2; exact (pnum_ok hn9 p1.1 z2).1
      obtain ⟨e1, e2⟩ := hok z3
      rw [r2.2 z2]
      show SC _ q (if (psg cc n 59 b1.2).2.1 = 0 then s.2 ++ [(a1.1, b1.1)] else s.2)
      rw [if_pos z]
      refine ⟨?_, fun k hk => ?_⟩
      · rw [sF_s, ct_o hq1]
        show sf S q 1 + 1 = nI (s.2 ++ [(a1.1, b1.1)]).length
        rw [hSC.1, nI_1, len1]
      · show sa (sA S (q + 1) rr (nI b1.1)) (q + 1) k = _
        rw [lnV_a e2, e1]
        by_cases e : k = a1.1
        · subst e; rw [sa_e, if_pos rfl]
        · rw [sa_n e, if_neg e]; exact hSC.2 k hk⟩)
  refine J_aload_n (pc := 0) dX6_readLine_0 rfl ?_
  refine J_iconst (pc := 1) (v := 0) dX6_readLine_1 (by decide) ?_
  refine J_aload_n (pc := 2) dX6_readLine_2 rfl ?_
  refine J_getiN (pc := 3) dX6_readLine_3 kc1 fl_X6_36 (by first | exact hou_i9 (by assumption) | rfl) ?_
  refine J_t1 (hs9 _) ?_
  refine J_iconst (pc := 6) (v := 1) dX6_readLine_6 (by decide) ?_
  refine J_isub (pc := 7) dX6_readLine_7 ?_
  refine J_cnr (pc := 8) (N := mX8_number) dX6_readLine_8 ml_X6_41 cf_X8_number cv_X8_number (r_X8_number (lo := 0) (hi := dNr d) hx hu rfl rfl (by omega) (by omega)) rfl rfl (Nat.le_of_ble_eq_true rfl) (by decide) (rv_of (ci := 8) rfl rfl rfl) ?_
  refine J_istore_n (pc := 11) dX6_readLine_11 (by decide) rfl ?_
  refine J_aload_n (pc := 12) dX6_readLine_12 rfl ?_
  refine J_iload_n (pc := 13) dX6_readLine_13 rfl ?_
  refine J_cnr (pc := 14) (N := mX1_hasRelic) dX6_readLine_14 ml_X6_45 cf_X1_hasRelic cv_X1_hasRelic (r_X1_hasRelic hHL ((HC_ct h1).mpr hHC) hv) rfl rfl (Nat.le_of_ble_eq_true rfl) (by decide) (rv_of (ci := 1) (by first | exact hou_n (by assumption) | rfl) rfl rfl) ?_
  refine J_ifp_ne (pc := 17) (tgt := 21) dX6_readLine_17 (by decide) (fun c17 => ?_) (fun c17 => ?_)
  · have q0 : (unm cc n 0 (dNr d) u).2.2.2.1 = 0 := by
      refine Classical.byContradiction (fun z => ?_)
      have : (unm cc n 0 (dNr d) u).1 = none := unm_n u0 z
      rw [this] at c17
      exact absurd c17.1 (by decide)
    obtain ⟨_, rr, e1, _, hrr⟩ := unm_s q0
    have a0 : a1.2.2.1 = 0 := UR_s r1.1 q0
    have er : rr = a1.1 := by have := r1.2 a0; rw [e1] at this; cases this; rfl
    rw [e1]
    refine J_aload_n (pc := 21) dX6_readLine_21 rfl ?_
    refine J_getr (pc := 22) dX6_readLine_22 kc6 fl_X6_9 (by first | exact sgt_r0 (by assumption) | rfl) ?_
    refine J_iload_n (pc := 25) dX6_readLine_25 rfl ?_
    refine J_il (pc := 26) dX6_readLine_26 (sgt_a0 hq) rfl ⟨Nat.lt_of_lt_of_le hrr n2, by decide⟩ ?_
    refine J_t1 (hSC.2 rr (by omega)) ?_
    refine J_iconst (pc := 27) (v := -1) dX6_readLine_27 (by decide) ?_
    refine J_icmp_eq (pc := 28) (tgt := 40) dX6_readLine_28 (by decide) (fun c28 => ?_) (fun c28 => ?_)
    · have na : ¬ s.2.any (fun q => q.1 == a1.1) = true := by rw [← er]; exact (lnV_n hSV).mp c28
      have et : t1 = a1.2 := by rw [ht1]; exact if_neg (fun z => na z.2)
      exact tail rr _ uA (by rw [et]; exact r1.1) hrr (fun _ => ⟨er, na⟩)
    · have na : s.2.any (fun q => q.1 == a1.1) = true := by rw [← er]; exact Classical.byContradiction (fun z => c28 ((lnV_n hSV).mpr z))
      have et : t1 = (a1.2.1, 2, s.1.1) := by rw [ht1]; exact if_pos ⟨a0, na⟩
      refine J_aload_n (pc := 31) dX6_readLine_31 rfl ?_
      refine J_iconst (pc := 32) (v := 2) dX6_readLine_32 (by decide) ?_
      refine J_aload_n (pc := 33) dX6_readLine_33 rfl ?_
      refine J_getiN (pc := 34) dX6_readLine_34 kc8 fl_X6_49 rfl ?_
      refine J_t1 (y := nI s.1.1) (congrArg nI htok) ?_
      refine J_cnv (pc := 37) (N := mX8_mark) dX6_readLine_37 ml_X6_52 cf_X8_mark cv_X8_mark (r_X8_mark (k := 2) uA (by decide)) rfl rfl (Nat.le_of_ble_eq_true rfl) (by decide) (rv_of (ci := 8) rfl rfl rfl) ?_
      exact tail rr _ (UO_um uA (by decide) hpo.1) (by unfold um; rw [if_pos q0, et]; exact ⟨rfl, fun _ => rfl, fun z => absurd z (Nat.succ_ne_zero 1)⟩) hrr (fun z => by rw [et] at z; exact absurd z (Nat.succ_ne_zero 1))
  · have q0 : ¬ (unm cc n 0 (dNr d) u).2.2.2.1 = 0 := fun z => by
      obtain ⟨_, rr, e1, _, hrr⟩ := unm_s z
      rw [e1] at c17
      exact c17 (in_nI hrr (by omega))
    have a0 : ¬ a1.2.2.1 = 0 := fun z => q0 (UR_0 r1.1 z)
    have et : t1 = a1.2 := by rw [ht1]; exact if_neg (fun z => a0 z.1)
    have eb : b1 = (0, t1) := by rw [hb]; exact pnum_no (by rw [et]; exact a0)
    have ep : psg cc n 59 b1.2 = a1.2 := by rw [eb, et]; exact if_pos a0
    exact J_ret (pc := 20) rfl rfl dX6_readLine_20 (hQ _ ⟨S, _, rfl, uA, by show UR _ (psg cc n 59 b1.2); rw [ep]; exact r1.1, FRC_r _ _ _, fun z => by have z : (psg cc n 59 b1.2).2.1 = 0 := z; rw [ep] at z; exact absurd z a0⟩)
theorem snC_at {cc : Nat → Nat} {n nr : Nat} {s : SNS} (hn : cc n = 999) (h : (snC cc n nr s).1.2.1 = 0) (hT : ∃ S', TX S' n cc) (hp : PO n s.1) : s.1.1 + 1 ≤ (snC cc n nr s).1.1 ∧ (snC cc n nr s).2.length = s.2.length + 1 := by
  obtain ⟨S', hT⟩ := hT
  have pa := PO_num hT hp 0 nr
  obtain ⟨g1, g2, g3⟩ := psg_ok (show (psg cc n 59 (pnum cc n 0 100 (if (pnum cc n 0 nr s.1).2.2.1 = 0 ∧ s.2.any (fun q => q.1 == (pnum cc n 0 nr s.1).1) = true then ((pnum cc n 0 nr s.1).2.1, 2, s.1.1) else (pnum cc n 0 nr s.1).2)).2).2.1 = 0 from h)
  have p1 : PO n (if (pnum cc n 0 nr s.1).2.2.1 = 0 ∧ s.2.any (fun q => q.1 == (pnum cc n 0 nr s.1).1) = true then ((pnum cc n 0 nr s.1).2.1, 2, s.1.1) else (pnum cc n 0 nr s.1).2) := by
    split
    · exact ⟨pa.1, by show 2 ≤ 3; omega, hp.1⟩
    · exact pa
  obtain ⟨k1, k2, k3, _, _⟩ := pnum_ok hn p1.1 g1
  have e : (if (pnum cc n 0 nr s.1).2.2.1 = 0 ∧ s.2.any (fun q => q.1 == (pnum cc n 0 nr s.1).1) = true then ((pnum cc n 0 nr s.1).2.1, 2, s.1.1) else (pnum cc n 0 nr s.1).2) = (pnum cc n 0 nr s.1).2 := by
    split at k1
    · exact absurd k1 (Nat.succ_ne_zero 1)
    · next z => exact if_neg z
  rw [e] at k1 k3 g3
  obtain ⟨m1, m2, m3, _, _⟩ := pnum_ok hn hp.1 k1
  refine ⟨?_, ?_⟩
  · show s.1.1 + 1 ≤ (psg cc n 59 (pnum cc n 0 100 (if (pnum cc n 0 nr s.1).2.2.1 = 0 ∧ s.2.any (fun q => q.1 == (pnum cc n 0 nr s.1).1) = true then ((pnum cc n 0 nr s.1).2.1, 2, s.1.1) else (pnum cc n 0 nr s.1).2)).2).1
    rw [e]
    omega
  · show (if (snC cc n nr s).1.2.1 = 0 then s.2 ++ [_] else s.2).length = _
    rw [if_pos h, len1]
theorem SV_snC {cc : Nat → Nat} {n nr : Nat} {s : SNS} (hn : cc n = 999) (h : (snC cc n nr s).1.2.1 = 0) (hT : ∃ S', TX S' n cc) (hp : PO n s.1) (hv : SV nr s.2) : SV nr (snC cc n nr s).2 := by
  obtain ⟨S', hT⟩ := hT
  have pa := PO_num hT hp 0 nr
  obtain ⟨g1, g2, g3⟩ := psg_ok (show (psg cc n 59 (pnum cc n 0 100 (if (pnum cc n 0 nr s.1).2.2.1 = 0 ∧ s.2.any (fun q => q.1 == (pnum cc n 0 nr s.1).1) = true then ((pnum cc n 0 nr s.1).2.1, 2, s.1.1) else (pnum cc n 0 nr s.1).2)).2).2.1 = 0 from h)
  have p1 : PO n (if (pnum cc n 0 nr s.1).2.2.1 = 0 ∧ s.2.any (fun q => q.1 == (pnum cc n 0 nr s.1).1) = true then ((pnum cc n 0 nr s.1).2.1, 2, s.1.1) else (pnum cc n 0 nr s.1).2) := by
    split
    · exact ⟨pa.1, by show 2 ≤ 3; omega, hp.1⟩
    · exact pa
  obtain ⟨k1, k2, k3, _, k5⟩ := pnum_ok hn p1.1 g1
  have nz : ¬ ((pnum cc n 0 nr s.1).2.2.1 = 0 ∧ s.2.any (fun q => q.1 == (pnum cc n 0 nr s.1).1) = true) := fun z => by
    rw [if_pos z] at k1
    exact absurd k1 (Nat.succ_ne_zero 1)
  rw [if_neg nz] at k1
  obtain ⟨m1, m2, m3, _, m5⟩ := pnum_ok hn hp.1 k1
  show SV nr (if (snC cc n nr s).1.2.1 = 0 then s.2 ++ [_] else s.2)
  rw [if_pos h]
  exact SV_app hv m5 k5 (fun z => nz ⟨k1, z⟩)
theorem snl_ex {cc : Nat → Nat} {n nr : Nat} (hn : cc n = 999) (hT : ∃ S', TX S' n cc) : ∀ (m : Nat) (s : SNS), PO n s.1 → n ≤ s.1.1 + m → ∃ r, snl cc n nr (m + 2) s = some r := by
  intro m
  induction m with
  | zero => exact fun s hp hs => ⟨s, if_neg (fun z => absurd z.2 (by omega))⟩
  | succ m ih =>
    intro s hp hs
    by_cases q : s.1.2.1 = 0 ∧ s.1.1 < n
    · have h1 : snl cc n nr (m + 1 + 2) s = snl cc n nr (m + 2) ((pbl cc n (snC cc n nr s).1.1, (snC cc n nr s).1.2), (snC cc n nr s).2) := if_pos q
      rw [h1]
      obtain ⟨S', hT'⟩ := hT
      have pC := PO_snC hT' hp nr
      by_cases z : (snC cc n nr s).1.2.1 = 0
      · have := (snC_at hn z ⟨S', hT'⟩ hp).1
        have hg := pbl_ge cc n (snC cc n nr s).1.1
        exact ih _ ⟨pbl_le cc pC.1, pC.2⟩ (by show n ≤ pbl cc n (snC cc n nr s).1.1 + m; omega)
      · exact ⟨_, if_neg (fun y => z y.1)⟩
    · exact ⟨s, if_neg q⟩
theorem sight_loop {g : Gp} {S : Sx} {n q a : Nat} {d : HD} {cc : Nat → Nat} (hx : CTX S n cc) (h60 : n ≤ 60) (hq : SLa q) (hHL : HLa a) (hHC : HC S a d) (hv : HV d) {sz : Nat} {Q : Po} : ∀ (f i : Nat) (s r : SNS) (Y : Sx) (u : UT), snl cc n (dNr d) f s = some r → UO n u → PO n s.1 → UR (unx cc n u) s.1 → FRC (sgF q) (sgA q) S Y → (s.1.2.1 = 0 → SC Y q s.2 ∧ SV (dNr d) s.2 ∧ i ≤ u.1) → (∀ X, SRd S q n r X → Q (.inl none) (hs X) sz) → ∀ x, (s.1.2.1 = 0 → x = nI i) → J g mX6_read 4 [] 6 [some (.ref q), some (.ref 1), some (.ref a), some (.int x)] [] (hs (ct Y u)) sz 0 0 Q := by
  intro f
  induction f with
  | zero => intro i s r Y u h; cases h
  | succ f ih =>
    intro i s r Y u h hu hpo hur hfr hsd hQ x hxx
    have hn9 := hx.2.2.2 n (Nat.le_refl _)
    have hxY := CTX_F hfr (sgF_1 hq) (sgA_2 hq) hx
    have hHY := HC_F hHC hfr (sg_H1 hq hHL) (sg_H2 hq hHL)
    have h : (if s.1.2.1 = 0 ∧ s.1.1 < n then snl cc n (dNr d) f ((pbl cc n (snC cc n (dNr d) s).1.1, (snC cc n (dNr d) s).1.2), (snC cc n (dNr d) s).2) else some s) = some r := h
    have hle := pbl_le cc hu.1
    have hu1 := hu.1
    by_cases q0 : s.1.2.1 = 0
    · obtain ⟨hSC, hSV, hi⟩ := hsd q0
      have hx0 := hxx q0
      subst hx0
      have u0 : u.2.2.1 = 0 := (UR_0 hur q0 : (unx cc n u).2.2.1 = 0)
      have eu : pbl cc n u.1 = s.1.1 := hur.2.2 q0
      by_cases qi : i < 60
      · by_cases q1 : s.1.1 < n
        · rw [if_pos ⟨q0, q1⟩] at h
          have hpbl : pbl cc n s.1.1 = s.1.1 := by rw [← eu, pbl_pbl hn9 hu.1]
          have hT := TX_of hx
          refine J_iload_n (pc := 6) dX6_read_6 rfl ?_
          refine J_bipush (pc := 7) (v := 60) dX6_read_7 (by decide) ?_
          refine J_icmp_ge (pc := 9) (tgt := 39) dX6_read_9 (by decide) (fun c9 => absurd c9 (nI_ge (b := 60) qi (by decide))) (fun c9 => ?_)
          refine J_aload_n (pc := 12) dX6_read_12 rfl ?_
          refine J_cnr (pc := 13) (N := mX8_isSound) dX6_read_13 ml_X6_22 cf_X8_isSound cv_X8_isSound (r_X8_isSound hu) rfl rfl (Nat.le_of_ble_eq_true rfl) (by decide) (rv_of (ci := 8) rfl rfl rfl) ?_
          refine J_ifp_eq (pc := 16) (tgt := 39) dX6_read_16 (by decide) (fun c16 => absurd u0 c16) (fun c16 => ?_)
          refine J_aload_n (pc := 19) dX6_read_19 rfl ?_
          refine J_cnr (pc := 20) (N := mX8_next) dX6_read_20 ml_X6_28 cf_X8_next cv_X8_next (r_X8_next hxY hu) rfl rfl (Nat.le_of_ble_eq_true rfl) (by decide) (rv_of (ci := 8) rfl rfl rfl) ?_
          refine J_iconst (pc := 23) (v := -1) dX6_read_23 (by decide) ?_
          refine J_icmp_eq (pc := 24) (tgt := 39) dX6_read_24 (by decide) (fun c24 => absurd c24 (by rw [eu]; unfold bv; rw [if_neg (by have := (hx.2.2.1 s.1.1 q1).2; omega)]; exact nI_nm (by have := (hx.2.2.1 s.1.1 q1).2; omega))) (fun c24 => ?_)
          refine J_aload_n (pc := 27) dX6_read_27 rfl ?_
          refine J_aload_n (pc := 28) dX6_read_28 rfl ?_
          refine J_aload_n (pc := 29) dX6_read_29 rfl ?_
          refine J_cvU (pc := 30) (N := mX6_readLine) dX6_read_30 ml_X6_32 cf_X6_readLine cv_X6_readLine (r_X6_readLine hxY (UO_nx hu) hur q0 hpo hpbl hq hHL hHY hv hSC hSV) rfl rfl (Nat.le_of_ble_eq_true rfl) (by decide) (rv_of (ci := 6) (by first | exact sgt_n (by assumption) | rfl) rfl rfl) ?_
          intro X30 hX30
          obtain ⟨Y', u', rfl, hu', hur', hfr', hsc'⟩ := hX30
          obtain ⟨S', hT'⟩ := id hT
          have hp2 := PO_snC hT' hpo (dNr d)
          refine J_iinc (pc := 33) (v := 1) dX6_read_33 rfl (by decide) rfl ?_
          rw [nI_1]
          refine J_goto (pc := 36) (tgt := 6) dX6_read_36 (by decide) ?_
          refine ih (i + 1) ((pbl cc n (snC cc n (dNr d) s).1.1, (snC cc n (dNr d) s).1.2), (snC cc n (dNr d) s).2) r Y' u' h hu' ⟨pbl_le cc hp2.1, hp2.2⟩ (UR_nx hur') (FRC_t hfr hfr') (fun z => ⟨hsc' z, SV_snC hn9 z hT hpo hSV, ?_⟩) hQ _ (fun z => rfl)
          have := (snC_at hn9 (show (snC cc n (dNr d) s).1.2.1 = 0 from z) hT hpo).1
          have e := hur'.2.2 z
          have := pbl_ge cc n u.1
          omega
        · rw [if_neg (fun z => q1 z.2)] at h
          cases h
          refine J_iload_n (pc := 6) dX6_read_6 rfl ?_
          refine J_bipush (pc := 7) (v := 60) dX6_read_7 (by decide) ?_
          refine J_icmp_ge (pc := 9) (tgt := 39) dX6_read_9 (by decide) (fun c9 => absurd c9 (nI_ge (b := 60) qi (by decide))) (fun c9 => ?_)
          refine J_aload_n (pc := 12) dX6_read_12 rfl ?_
          refine J_cnr (pc := 13) (N := mX8_isSound) dX6_read_13 ml_X6_22 cf_X8_isSound cv_X8_isSound (r_X8_isSound hu) rfl rfl (Nat.le_of_ble_eq_true rfl) (by decide) (rv_of (ci := 8) rfl rfl rfl) ?_
          refine J_ifp_eq (pc := 16) (tgt := 39) dX6_read_16 (by decide) (fun c16 => absurd u0 c16) (fun c16 => ?_)
          refine J_aload_n (pc := 19) dX6_read_19 rfl ?_
          refine J_cnr (pc := 20) (N := mX8_next) dX6_read_20 ml_X6_28 cf_X8_next cv_X8_next (r_X8_next hxY hu) rfl rfl (Nat.le_of_ble_eq_true rfl) (by decide) (rv_of (ci := 8) rfl rfl rfl) ?_
          refine J_iconst (pc := 23) (v := -1) dX6_read_23 (by decide) ?_
          refine J_icmp_eq (pc := 24) (tgt := 39) dX6_read_24 (by decide) (fun c24 => ?_) (fun c24 => absurd (by rw [eu]; unfold bv; rw [if_pos (hx.2.2.2 s.1.1 (by omega))]) c24)
          exact J_ret (pc := 39) rfl rfl dX6_read_39 (hQ _ ⟨Y, _, rfl, UO_nx hu, hur, hfr, fun _ => hSC⟩)
      · have hun : u.1 = n := by omega
        have hpn : pbl cc n u.1 = u.1 := by rw [hun]; exact pbl_id (by rw [hn9]; decide)
        rw [if_neg (fun z => absurd z.2 (by omega))] at h
        cases h
        refine J_iload_n (pc := 6) dX6_read_6 rfl ?_
        refine J_bipush (pc := 7) (v := 60) dX6_read_7 (by decide) ?_
        refine J_icmp_ge (pc := 9) (tgt := 39) dX6_read_9 (by decide) (fun c9 => ?_) (fun c9 => absurd (nI_le (a := 60) (by omega) (by omega)) c9)
        exact J_ret (pc := 39) rfl rfl dX6_read_39 (hQ _ ⟨Y, u, rfl, hu, ⟨hur.1, hur.2.1, fun _ => by rw [← eu, hpn]⟩, hfr, fun _ => hSC⟩)
    · rw [if_neg (fun z => q0 z.1)] at h
      cases h
      have u0 : ¬ u.2.2.1 = 0 := fun z => q0 (UR_s hur (show (unx cc n u).2.2.1 = 0 from z))
      have hur2 : UR u s.1 := ⟨hur.1, hur.2.1, fun z => absurd z q0⟩
      have fin : J g mX6_read 4 [] 39 [some (.ref q), some (.ref 1), some (.ref a), some (.int x)] [] (hs (ct Y u)) sz 0 0 Q := J_ret (pc := 39) rfl rfl dX6_read_39 (hQ _ ⟨Y, u, rfl, hu, hur2, hfr, fun z => absurd z q0⟩)
      refine J_iload_n (pc := 6) dX6_read_6 rfl ?_
      refine J_bipush (pc := 7) (v := 60) dX6_read_7 (by decide) ?_
      refine J_icmp_ge (pc := 9) (tgt := 39) dX6_read_9 (by decide) (fun c9 => ?_) (fun c9 => ?_)
      · exact fin
      · refine J_aload_n (pc := 12) dX6_read_12 rfl ?_
        refine J_cnr (pc := 13) (N := mX8_isSound) dX6_read_13 ml_X6_22 cf_X8_isSound cv_X8_isSound (r_X8_isSound hu) rfl rfl (Nat.le_of_ble_eq_true rfl) (by decide) (rv_of (ci := 8) rfl rfl rfl) ?_
        refine J_ifp_eq (pc := 16) (tgt := 39) dX6_read_16 (by decide) (fun c16 => ?_) (fun c16 => absurd c16 u0)
        exact fin
theorem r_X6_read {g : Gp} {S : Sx} {n : Nat} {cc : Nat → Nat} (hx : CTX S n cc) {u : UT} (hu : UO n u) (h60 : n ≤ 60) (h0 : u.1 = 0) (hf0 : u.2.2.1 = 0) {q a : Nat} {d : HD} (hq : SLa q) (hHL : HLa a) (hHC : HC S a d) (hv : HV d) {f : Nat} {r : SNS} (hr : snl cc n (dNr d) f ((pbl cc n 0, 0, 0), []) = some r) : RU g mX6_read 4 [.ref q, .ref 1, .ref a] (ct S u) (SRd S q n r) := by
  refine RU_ofQ ⟨rfl, rfl⟩ (Nat.le_of_ble_eq_true rfl) (fun sz Q hQ => ?_)
  have hq1 := SLa_1 hq
  refine J_aload_n (pc := 0) dX6_read_0 rfl ?_
  refine J_cvU (pc := 1) (N := mX6_clear) dX6_read_1 ml_X6_15 cf_X6_clear cv_X6_clear (r_X6_clear hq) rfl rfl (Nat.le_of_ble_eq_true rfl) (by decide) (rv_of (ci := 6) (by first | exact sgt_n (by assumption) | rfl) rfl rfl) ?_
  intro X1 hX1
  obtain ⟨hf1, hsc⟩ := hX1
  have hct : ∃ Y, X1 = ct Y u ∧ FRC (sgF q) (sgA q) S Y ∧ SC Y q [] := by
    refine ⟨(fun x y => if x = 1 then sf S x y else sf X1 x y, sp X1, sa X1, sl X1, sx X1), ?_, ⟨⟨fun x k hk => ?_, hf1.1.2.1, hf1.1.2.2⟩, hf1.2⟩, (if_neg hq1).trans hsc.1, hsc.2⟩
    · have : sf X1 = sf (ct (fun x y => if x = 1 then sf S x y else sf X1 x y, sp X1, sa X1, sl X1, sx X1) u) := by
        funext x y
        by_cases e : x = 1
        · subst e
          rw [hf1.1.1 1 y (decide_eq_false (fun z => hq1 z.1.symm))]
          simp [ct, sf]
        · rw [ct_o e]
          exact (if_neg e).symm
      exact Prod.ext this rfl
    · by_cases e : x = 1
      · exact if_pos e
      · exact (if_neg e).trans ((hf1.1.1 x k hk).trans (ct_o e))
  obtain ⟨Y, rfl, hfr, hsc⟩ := hct
  refine J_iconst (pc := 4) (v := 0) dX6_read_4 (by decide) ?_
  refine J_istore_n (pc := 5) dX6_read_5 (by decide) rfl ?_
  refine sight_loop hx h60 hq hHL hHC hv f 0 _ r Y u hr hu ⟨pbl_le cc (Nat.zero_le n), Nat.zero_le 3, Nat.zero_le n⟩ ⟨hf0, fun z => absurd rfl z, fun _ => by show pbl cc n u.1 = pbl cc n 0; rw [h0]⟩ hfr (fun _ => ⟨hsc, ⟨List.nodup_nil, fun q hq => absurd hq List.not_mem_nil⟩, Nat.zero_le _⟩) hQ _ (fun _ => rfl)
