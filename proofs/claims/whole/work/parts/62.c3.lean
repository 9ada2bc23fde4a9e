theorem lt_s1 {x : Int32} {n : Nat} (h : n < 1000) : x ≤ nI n - 1 ↔ x < nI n := by
  rw [Int32.le_iff_toInt_le, Int32.lt_iff_toInt_lt, show (1 : Int32) = nI 1 from rfl, pk_sub_toInt (by omega) (by decide), nI_toInt (by omega)]
  omega
theorem r_X1_hasSister {g : Gp} {S : Sx} {a : Nat} {d : HD} (hHL : HLa a) (hHC : HC S a d) (hv : HV d) {x : Int32} : RT g mX1_hasSister 0 [.ref a, .int x] S (some (.int (bI (decide (0 ≤ x ∧ x ≤ nI (dNs d) - 1))))) S := by
  refine RT_ofQ ⟨rfl, rfl⟩ (Nat.le_of_ble_eq_true rfl) (fun sz Q hQ => ?_)
  have n1 : dNs d ≤ 8 := hv.1
  have n2 : dNr d ≤ 10 := hv.2.1
  have n3 : dNp d ≤ 8 := hv.2.2.1
  refine J_iload_n (pc := 0) dX1_hasSister_0 rfl ?_
  refine J_if_lt (pc := 1) (tgt := 16) dX1_hasSister_1 (by decide) (fun c1 => ?_) (fun c1 => ?_)
  · refine J_iconst (pc := 16) (v := 0) dX1_hasSister_16 (by decide) ?_
    exact J_iret (pc := 17) rfl rfl rfl dX1_hasSister_17 (rq hQ (by first | exact Eq.symm (bI_t ⟨Int32.not_lt.mp c1, (lt_s1 (by omega)).mpr (Int32.not_le.mp c9)⟩) | exact Eq.symm (bI_f (fun q => Int32.not_le.mpr c1 q.1)) | exact Eq.symm (bI_f (fun q => Int32.not_le.mpr ((lt_s1 (by omega)).mp q.2) c9))) rfl)
  · refine J_iload_n (pc := 4) dX1_hasSister_4 rfl ?_
    refine J_aload_n (pc := 5) dX1_hasSister_5 rfl ?_
    refine J_geti (pc := 6) dX1_hasSister_6 kc1 fl_X1_36 (by first | exact hou_i8 (by assumption) | rfl) ?_
    refine J_t1 (hHC.1) ?_
    refine J_icmp_ge (pc := 9) (tgt := 16) dX1_hasSister_9 (by decide) (fun c9 => ?_) (fun c9 => ?_)
    · refine J_iconst (pc := 16) (v := 0) dX1_hasSister_16 (by decide) ?_
      exact J_iret (pc := 17) rfl rfl rfl dX1_hasSister_17 (rq hQ (by first | exact Eq.symm (bI_t ⟨Int32.not_lt.mp c1, (lt_s1 (by omega)).mpr (Int32.not_le.mp c9)⟩) | exact Eq.symm (bI_f (fun q => Int32.not_le.mpr c1 q.1)) | exact Eq.symm (bI_f (fun q => Int32.not_le.mpr ((lt_s1 (by omega)).mp q.2) c9))) rfl)
    · refine J_iconst (pc := 12) (v := 1) dX1_hasSister_12 (by decide) ?_
      refine J_goto (pc := 13) (tgt := 17) dX1_hasSister_13 (by decide) ?_
      exact J_iret (pc := 17) rfl rfl rfl dX1_hasSister_17 (rq hQ (by first | exact Eq.symm (bI_t ⟨Int32.not_lt.mp c1, (lt_s1 (by omega)).mpr (Int32.not_le.mp c9)⟩) | exact Eq.symm (bI_f (fun q => Int32.not_le.mpr c1 q.1)) | exact Eq.symm (bI_f (fun q => Int32.not_le.mpr ((lt_s1 (by omega)).mp q.2) c9))) rfl)
theorem r_X1_hasRelic {g : Gp} {S : Sx} {a : Nat} {d : HD} (hHL : HLa a) (hHC : HC S a d) (hv : HV d) {x : Int32} : RT g mX1_hasRelic 0 [.ref a, .int x] S (some (.int (bI (decide (0 ≤ x ∧ x ≤ nI (dNr d) - 1))))) S := by
  refine RT_ofQ ⟨rfl, rfl⟩ (Nat.le_of_ble_eq_true rfl) (fun sz Q hQ => ?_)
  have n1 : dNs d ≤ 8 := hv.1
  have n2 : dNr d ≤ 10 := hv.2.1
  have n3 : dNp d ≤ 8 := hv.2.2.1
  refine J_iload_n (pc := 0) dX1_hasRelic_0 rfl ?_
  refine J_if_lt (pc := 1) (tgt := 16) dX1_hasRelic_1 (by decide) (fun c1 => ?_) (fun c1 => ?_)
  · refine J_iconst (pc := 16) (v := 0) dX1_hasRelic_16 (by decide) ?_
    exact J_iret (pc := 17) rfl rfl rfl dX1_hasRelic_17 (rq hQ (by first | exact Eq.symm (bI_t ⟨Int32.not_lt.mp c1, (lt_s1 (by omega)).mpr (Int32.not_le.mp c9)⟩) | exact Eq.symm (bI_f (fun q => Int32.not_le.mpr c1 q.1)) | exact Eq.symm (bI_f (fun q => Int32.not_le.mpr ((lt_s1 (by omega)).mp q.2) c9))) rfl)
  · refine J_iload_n (pc := 4) dX1_hasRelic_4 rfl ?_
    refine J_aload_n (pc := 5) dX1_hasRelic_5 rfl ?_
    refine J_geti (pc := 6) dX1_hasRelic_6 kc1 fl_X1_40 (by first | exact hou_i9 (by assumption) | rfl) ?_
    refine J_t1 (hHC.2.1) ?_
    refine J_icmp_ge (pc := 9) (tgt := 16) dX1_hasRelic_9 (by decide) (fun c9 => ?_) (fun c9 => ?_)
    · refine J_iconst (pc := 16) (v := 0) dX1_hasRelic_16 (by decide) ?_
      exact J_iret (pc := 17) rfl rfl rfl dX1_hasRelic_17 (rq hQ (by first | exact Eq.symm (bI_t ⟨Int32.not_lt.mp c1, (lt_s1 (by omega)).mpr (Int32.not_le.mp c9)⟩) | exact Eq.symm (bI_f (fun q => Int32.not_le.mpr c1 q.1)) | exact Eq.symm (bI_f (fun q => Int32.not_le.mpr ((lt_s1 (by omega)).mp q.2) c9))) rfl)
    · refine J_iconst (pc := 12) (v := 1) dX1_hasRelic_12 (by decide) ?_
      refine J_goto (pc := 13) (tgt := 17) dX1_hasRelic_13 (by decide) ?_
      exact J_iret (pc := 17) rfl rfl rfl dX1_hasRelic_17 (rq hQ (by first | exact Eq.symm (bI_t ⟨Int32.not_lt.mp c1, (lt_s1 (by omega)).mpr (Int32.not_le.mp c9)⟩) | exact Eq.symm (bI_f (fun q => Int32.not_le.mpr c1 q.1)) | exact Eq.symm (bI_f (fun q => Int32.not_le.mpr ((lt_s1 (by omega)).mp q.2) c9))) rfl)
theorem r_X1_hasPilgrim {g : Gp} {S : Sx} {a : Nat} {d : HD} (hHL : HLa a) (hHC : HC S a d) (hv : HV d) {x : Int32} : RT g mX1_hasPilgrim 0 [.ref a, .int x] S (some (.int (bI (decide (0 ≤ x ∧ x ≤ nI (dNp d) - 1))))) S := by
  refine RT_ofQ ⟨rfl, rfl⟩ (Nat.le_of_ble_eq_true rfl) (fun sz Q hQ => ?_)
  have n1 : dNs d ≤ 8 := hv.1
  have n2 : dNr d ≤ 10 := hv.2.1
  have n3 : dNp d ≤ 8 := hv.2.2.1
  refine J_iload_n (pc := 0) dX1_hasPilgrim_0 rfl ?_
  refine J_if_lt (pc := 1) (tgt := 16) dX1_hasPilgrim_1 (by decide) (fun c1 => ?_) (fun c1 => ?_)
  · refine J_iconst (pc := 16) (v := 0) dX1_hasPilgrim_16 (by decide) ?_
    exact J_iret (pc := 17) rfl rfl rfl dX1_hasPilgrim_17 (rq hQ (by first | exact Eq.symm (bI_t ⟨Int32.not_lt.mp c1, (lt_s1 (by omega)).mpr (Int32.not_le.mp c9)⟩) | exact Eq.symm (bI_f (fun q => Int32.not_le.mpr c1 q.1)) | exact Eq.symm (bI_f (fun q => Int32.not_le.mpr ((lt_s1 (by omega)).mp q.2) c9))) rfl)
  · refine J_iload_n (pc := 4) dX1_hasPilgrim_4 rfl ?_
    refine J_aload_n (pc := 5) dX1_hasPilgrim_5 rfl ?_
    refine J_geti (pc := 6) dX1_hasPilgrim_6 kc1 fl_X1_43 (by first | exact hou_i10 (by assumption) | rfl) ?_
    refine J_t1 (hHC.2.2.1) ?_
    refine J_icmp_ge (pc := 9) (tgt := 16) dX1_hasPilgrim_9 (by decide) (fun c9 => ?_) (fun c9 => ?_)
    · refine J_iconst (pc := 16) (v := 0) dX1_hasPilgrim_16 (by decide) ?_
      exact J_iret (pc := 17) rfl rfl rfl dX1_hasPilgrim_17 (rq hQ (by first | exact Eq.symm (bI_t ⟨Int32.not_lt.mp c1, (lt_s1 (by omega)).mpr (Int32.not_le.mp c9)⟩) | exact Eq.symm (bI_f (fun q => Int32.not_le.mpr c1 q.1)) | exact Eq.symm (bI_f (fun q => Int32.not_le.mpr ((lt_s1 (by omega)).mp q.2) c9))) rfl)
    · refine J_iconst (pc := 12) (v := 1) dX1_hasPilgrim_12 (by decide) ?_
      refine J_goto (pc := 13) (tgt := 17) dX1_hasPilgrim_13 (by decide) ?_
      exact J_iret (pc := 17) rfl rfl rfl dX1_hasPilgrim_17 (rq hQ (by first | exact Eq.symm (bI_t ⟨Int32.not_lt.mp c1, (lt_s1 (by omega)).mpr (Int32.not_le.mp c9)⟩) | exact Eq.symm (bI_f (fun q => Int32.not_le.mpr c1 q.1)) | exact Eq.symm (bI_f (fun q => Int32.not_le.mpr ((lt_s1 (by omega)).mp q.2) c9))) rfl)
theorem in_nI {r n : Nat} (h : r < n) (hn : n < 1000) : 0 ≤ nI r ∧ nI r ≤ nI n - 1 := ⟨nI_pos' (by omega), (lt_s1 hn).mpr (nI_lt h (by omega))⟩
theorem in_m1 {n : Nat} : ¬ (0 ≤ (-1 : Int32) ∧ (-1 : Int32) ≤ nI n - 1) := fun h => absurd h.1 (by decide)
theorem itv_lt {d : HD} (hv : HV d) {s : Nat} (hs : s < dNs d) : ∀ n v, itv d.2.1 n s = some v → v < dNs d
  | 0, v, e => by cases e; exact hs
  | n + 1, v, e => by
    have e : (itv d.2.1 n s).bind d.2.1 = some v := e
    cases hq : itv d.2.1 n s with
    | none => rw [hq] at e; cases e
    | some u =>
      rw [hq] at e
      exact (hv.2.2.2.2.1 u v e).2
theorem rgv_none {vo : Nat → Option Nat} {s : Nat} : ∀ {n : Nat}, rgv vo s n = none → ∀ j, 1 ≤ j → j ≤ n → itv vo j s ≠ some s
  | 0, _, j, h1, h2 => by omega
  | n + 1, e, j, h1, h2 => by
    unfold rgv at e
    cases hq : rgv vo s n with
    | some k => rw [hq] at e; cases e
    | none =>
      rw [hq] at e
      by_cases h : itv vo (n + 1) s = some s
      · rw [if_pos h] at e; cases e
      · by_cases e2 : j = n + 1
        · rw [e2]; exact h
        · exact rgv_none hq j h1 (by omega)
/-- who is come to by eight vows is in a ring -/
theorem rg8 {d : HD} (hv : HV d) {s q : Nat} (hs : s < dNs d) (h8 : itv d.2.1 8 s = some q) : ∃ k, rgv d.2.1 q 8 = some k := by
  have n1 : dNs d ≤ 8 := hv.1
  have hsome : ∀ i, i ≤ 8 → ∃ x, itv d.2.1 i s = some x := by
    intro i hi
    cases h : itv d.2.1 i s with
    | some x => exact ⟨x, rfl⟩
    | none => rw [itv_none h 8 hi] at h8; cases h8
  have hrep : ∃ i j, i < j ∧ j ≤ 8 ∧ itv d.2.1 i s = itv d.2.1 j s := by
    apply Classical.byContradiction
    intro hc
    have hnd : ((List.range 9).map (fun i => (itv d.2.1 i s).getD 0)).Nodup := by
      show List.Pairwise _ _
      rw [List.pairwise_map]
      refine List.Pairwise.imp_of_mem (fun {a b} ha hb hab => ?_) List.pairwise_lt_range
      have hb9 := List.mem_range.mp hb
      intro he
      apply hc
      refine ⟨a, b, hab, by omega, ?_⟩
      obtain ⟨x, hx⟩ := hsome a (by omega)
      obtain ⟨y, hy⟩ := hsome b (by omega)
      rw [hx, hy] at he ⊢
      exact congrArg some he
    have := nd_len 8 _ hnd (fun x hx => by
      obtain ⟨i, hi, rfl⟩ := List.mem_map.mp hx
      have hi := List.mem_range.mp hi
      obtain ⟨y, hy⟩ := hsome i (by omega)
      have := itv_lt hv hs i y hy
      rw [hy]
      show y < 8
      omega)
    simp at this
  obtain ⟨i, j, hij, hj, he⟩ := hrep
  obtain ⟨y, hy⟩ := hsome i (by omega)
  have hyj : itv d.2.1 j s = some y := he.symm.trans hy
  have e1 : itv d.2.1 (j - i) y = some y := by
    have := itv_add d.2.1 (j - i) i s
    rw [show j - i + i = j by omega, hyj, hy] at this
    exact this.symm
  have e2 : itv d.2.1 (8 - j) y = some q := by
    have := itv_add d.2.1 (8 - j) j s
    rw [show 8 - j + j = 8 by omega, h8, hyj] at this
    exact this.symm
  have e3 : itv d.2.1 (j - i) q = some q := by
    have h1 := itv_add d.2.1 (j - i) (8 - j) y
    have h2 := itv_add d.2.1 (8 - j) (j - i) y
    rw [e2] at h1
    rw [e1, show 8 - j + (j - i) = j - i + (8 - j) by omega, h1] at h2
    exact h2.trans e2
  cases hr : rgv d.2.1 q 8 with
  | some k => exact ⟨k, rfl⟩
  | none => exact absurd e3 (rgv_none hr (j - i) (by omega) (by omega))
theorem r_X1_walk {g : Gp} {S : Sx} {a : Nat} {d : HD} (hHL : HLa a) (hHC : HC S a d) (hv : HV d) {s k : Nat} (hs' : s < dNs d) (hk : k < 2 ^ 31) : RT g mX1_walk 1 [.ref a, .int (nI s), .int (nI k)] S (some (.int (ov (itv d.2.1 k s)))) S := by
  refine RT_ofQ ⟨rfl, rfl⟩ (Nat.le_of_ble_eq_true rfl) (fun sz Q hQ => ?_)
  have n1 : dNs d ≤ 8 := hv.1
  have n2 : dNr d ≤ 10 := hv.2.1
  have n3 : dNp d ≤ 8 := hv.2.2.1
  have hN : itv d.2.1 k s = none → ∀ x4 : Int32, J g mX1_walk 1 [] 5 [some (.ref a), some (.int (nI s)), some (.int (nI k)), some (.int (-1)), some (.int x4)] [] (hs S) sz 0 0 Q := by
    intro hn x4
    refine J_iload (pc := 5) dX1_walk_5 rfl ?_
    refine J_iload_n (pc := 7) dX1_walk_7 rfl ?_
    refine J_icmp_ge (pc := 8) (tgt := 32) dX1_walk_8 (by decide) (fun c8 => ?_) (fun c8 => ?_)
    · refine J_iload_n (pc := 32) dX1_walk_32 rfl ?_
      exact J_iret (pc := 33) rfl rfl rfl dX1_walk_33 (rq hQ (by rw [hn]; rfl) rfl)
    · refine J_aload_n (pc := 11) dX1_walk_11 rfl ?_
      refine J_iload_n (pc := 12) dX1_walk_12 rfl ?_
      refine J_cvr (pc := 13) (N := mX1_hasSister) dX1_walk_13 ml_X1_98 cf_X1_hasSister cv_X1_hasSister (r_X1_hasSister hHL hHC hv) rfl rfl (Nat.le_of_ble_eq_true rfl) (by decide) (rv_of (ci := 1) (by first | exact hou_n (by assumption) | rfl) rfl rfl) ?_
      refine J_ifp_eq (pc := 16) (tgt := 32) dX1_walk_16 (by decide) (fun c16 => ?_) (fun c16 => absurd c16 in_m1)
      refine J_iload_n (pc := 32) dX1_walk_32 rfl ?_
      exact J_iret (pc := 33) rfl rfl rfl dX1_walk_33 (rq hQ (by rw [hn]; rfl) rfl)
  refine J_iload_n (pc := 0) dX1_walk_0 rfl ?_
  refine J_istore_n (pc := 1) dX1_walk_1 (by decide) rfl ?_
  refine J_iconst (pc := 2) (v := 0) dX1_walk_2 (by decide) ?_
  refine J_istore (pc := 3) dX1_walk_3 (by decide) rfl ?_
  refine dn_ind (n := k) (P := fun i => ∀ v, itv d.2.1 i s = some v → J g mX1_walk 1 [] 5 [some (.ref a), some (.int (nI s)), some (.int (nI k)), some (.int (nI v)), some (.int (ix i))] [] (hs S) sz 0 0 Q) ?_ (fun i hi ih => ?_) 0 (Nat.zero_le _) s rfl
  · intro v hv1
    refine J_iload (pc := 5) dX1_walk_5 rfl ?_
    refine J_iload_n (pc := 7) dX1_walk_7 rfl ?_
    refine J_icmp_ge (pc := 8) (tgt := 32) dX1_walk_8 (by decide) (fun c8 => ?_) (fun c8 => absurd (ix_ge rfl) c8)
    refine J_iload_n (pc := 32) dX1_walk_32 rfl ?_
    exact J_iret (pc := 33) rfl rfl rfl dX1_walk_33 (rq hQ (by rw [hv1]; rfl) rfl)
  · intro v hv1
    have vn := itv_lt hv hs' i v hv1
    refine J_iload (pc := 5) dX1_walk_5 rfl ?_
    refine J_iload_n (pc := 7) dX1_walk_7 rfl ?_
    refine J_icmp_ge (pc := 8) (tgt := 32) dX1_walk_8 (by decide) (fun c8 => absurd c8 (ix_lt rfl hi hk)) (fun c8 => ?_)
    refine J_aload_n (pc := 11) dX1_walk_11 rfl ?_
    refine J_iload_n (pc := 12) dX1_walk_12 rfl ?_
    refine J_cvr (pc := 13) (N := mX1_hasSister) dX1_walk_13 ml_X1_98 cf_X1_hasSister cv_X1_hasSister (r_X1_hasSister hHL hHC hv) rfl rfl (Nat.le_of_ble_eq_true rfl) (by decide) (rv_of (ci := 1) (by first | exact hou_n (by assumption) | rfl) rfl rfl) ?_
    refine J_ifp_eq (pc := 16) (tgt := 32) dX1_walk_16 (by decide) (fun c16 => absurd (in_nI vn (by omega)) c16) (fun c16 => ?_)
    refine J_aload_n (pc := 19) dX1_walk_19 rfl ?_
    refine J_getr (pc := 20) dX1_walk_20 kc1 fl_X1_18 (by first | exact hou_r2 (by assumption) | rfl) ?_
    refine J_iload_n (pc := 23) dX1_walk_23 rfl ?_
    refine J_il (pc := 24) dX1_walk_24 (by first | exact hou_a2 (by assumption) | rfl) (by first | with_reducible rfl | assumption | exact ix_nI _ | rfl) ⟨by first | decide | omega, by decide⟩ ?_
    refine J_t1 ((hHC.2.2.2.1 _ vn).2.2) ?_
    refine J_istore_n (pc := 25) dX1_walk_25 (by decide) rfl ?_
    refine J_iinc (pc := 26) (v := 1) dX1_walk_26 rfl (by decide) rfl ?_
    refine J_goto (pc := 29) (tgt := 5) dX1_walk_29 (by decide) ?_
    have hnx : itv d.2.1 (i + 1) s = d.2.1 v := by show (itv d.2.1 i s).bind d.2.1 = _; rw [hv1]; rfl
    cases hw : d.2.1 v with
    | none => exact hN (itv_none (hnx.trans hw) k (by omega)) _
    | some w => exact ih w (hnx.trans hw)
theorem r_X1_ringOf {g : Gp} {S : Sx} {a : Nat} {d : HD} (hHL : HLa a) (hHC : HC S a d) (hv : HV d) {s : Nat} (hs' : s < dNs d) : RT g mX1_ringOf 1 [.ref a, .int (nI s)] S (some (.int (ov (rgv d.2.1 s 8)))) S := by
  refine RT_ofQ ⟨rfl, rfl⟩ (Nat.le_of_ble_eq_true rfl) (fun sz Q hQ => ?_)
  have n1 : dNs d ≤ 8 := hv.1
  have n2 : dNr d ≤ 10 := hv.2.1
  have n3 : dNp d ≤ 8 := hv.2.2.1
  have hN : rgv d.2.1 s 8 = none → ∀ x3 : Int32, J g mX1_ringOf 1 [] 4 [some (.ref a), some (.int (nI s)), some (.int (-1)), some (.int x3)] [] (hs S) sz 0 0 Q := by
    intro hn x3
    refine J_iload_n (pc := 4) dX1_ringOf_4 rfl ?_
    refine J_bipush (pc := 5) (v := 8) dX1_ringOf_5 (by decide) ?_
    refine J_icmp_gt (pc := 7) (tgt := 38) dX1_ringOf_7 (by decide) (fun c7 => ?_) (fun c7 => ?_)
    · refine J_iconst (pc := 38) (v := -1) dX1_ringOf_38 (by decide) ?_
      exact J_iret (pc := 39) rfl rfl rfl dX1_ringOf_39 (rq hQ (by rw [hn]; rfl) rfl)
    · refine J_aload_n (pc := 10) dX1_ringOf_10 rfl ?_
      refine J_iload_n (pc := 11) dX1_ringOf_11 rfl ?_
      refine J_cvr (pc := 12) (N := mX1_hasSister) dX1_ringOf_12 ml_X1_98 cf_X1_hasSister cv_X1_hasSister (r_X1_hasSister hHL hHC hv) rfl rfl (Nat.le_of_ble_eq_true rfl) (by decide) (rv_of (ci := 1) (by first | exact hou_n (by assumption) | rfl) rfl rfl) ?_
      refine J_ifp_eq (pc := 15) (tgt := 38) dX1_ringOf_15 (by decide) (fun c15 => ?_) (fun c15 => absurd c15 in_m1)
      refine J_iconst (pc := 38) (v := -1) dX1_ringOf_38 (by decide) ?_
      exact J_iret (pc := 39) rfl rfl rfl dX1_ringOf_39 (rq hQ (by rw [hn]; rfl) rfl)
  refine J_iload_n (pc := 0) dX1_ringOf_0 rfl ?_
  refine J_istore_n (pc := 1) dX1_ringOf_1 (by decide) rfl ?_
  refine J_iconst (pc := 2) (v := 1) dX1_ringOf_2 (by decide) ?_
  refine J_istore_n (pc := 3) dX1_ringOf_3 (by decide) rfl ?_
  refine dn_ind (n := 8) (P := fun i => ∀ v, itv d.2.1 i s = some v → (∀ j, 1 ≤ j → j ≤ i → itv d.2.1 j s ≠ some s) → J g mX1_ringOf 1 [] 4 [some (.ref a), some (.int (nI s)), some (.int (nI v)), some (.int (ix (i + 1)))] [] (hs S) sz 0 0 Q) ?_ (fun i hi ih => ?_) 0 (Nat.zero_le _) s rfl (fun j h1 h2 => by omega)
  · intro v hv1 hno
    refine J_iload_n (pc := 4) dX1_ringOf_4 rfl ?_
    refine J_bipush (pc := 5) (v := 8) dX1_ringOf_5 (by decide) ?_
    refine J_icmp_gt (pc := 7) (tgt := 38) dX1_ringOf_7 (by decide) (fun c7 => ?_) (fun c7 => absurd (by decide) c7)
    refine J_iconst (pc := 38) (v := -1) dX1_ringOf_38 (by decide) ?_
    exact J_iret (pc := 39) rfl rfl rfl dX1_ringOf_39 (rq hQ (by rw [rgv_no hno]; rfl) rfl)
  · intro v hv1 hno
    have vn := itv_lt hv hs' i v hv1
    have hnx : itv d.2.1 (i + 1) s = d.2.1 v := by show (itv d.2.1 i s).bind d.2.1 = _; rw [hv1]; rfl
    refine J_iload_n (pc := 4) dX1_ringOf_4 rfl ?_
    refine J_bipush (pc := 5) (v := 8) dX1_ringOf_5 (by decide) ?_
    refine J_icmp_gt (pc := 7) (tgt := 38) dX1_ringOf_7 (by decide) (fun c7 => absurd c7 (by rw [ix_nI]; exact Int32.not_lt.mpr (nI_le (b := 8) (by omega) (by decide)))) (fun c7 => ?_)
    refine J_aload_n (pc := 10) dX1_ringOf_10 rfl ?_
    refine J_iload_n (pc := 11) dX1_ringOf_11 rfl ?_
    refine J_cvr (pc := 12) (N := mX1_hasSister) dX1_ringOf_12 ml_X1_98 cf_X1_hasSister cv_X1_hasSister (r_X1_hasSister hHL hHC hv) rfl rfl (Nat.le_of_ble_eq_true rfl) (by decide) (rv_of (ci := 1) (by first | exact hou_n (by assumption) | rfl) rfl rfl) ?_
    refine J_ifp_eq (pc := 15) (tgt := 38) dX1_ringOf_15 (by decide) (fun c15 => absurd (in_nI vn (by omega)) c15) (fun c15 => ?_)
    refine J_aload_n (pc := 18) dX1_ringOf_18 rfl ?_
    refine J_getr (pc := 19) dX1_ringOf_19 kc1 fl_X1_18 (by first | exact hou_r2 (by assumption) | rfl) ?_
    refine J_iload_n (pc := 22) dX1_ringOf_22 rfl ?_
    refine J_il (pc := 23) dX1_ringOf_23 (by first | exact hou_a2 (by assumption) | rfl) (by first | with_reducible rfl | assumption | exact ix_nI _ | rfl) ⟨by first | decide | omega, by decide⟩ ?_
    refine J_t1 ((hHC.2.2.2.1 _ vn).2.2) ?_
    cases hw : d.2.1 v with
    | none =>
      refine J_istore_n (pc := 24) dX1_ringOf_24 (by decide) rfl ?_
      refine J_iload_n (pc := 25) dX1_ringOf_25 rfl ?_
      refine J_iload_n (pc := 26) dX1_ringOf_26 rfl ?_
      refine J_icmp_ne (pc := 27) (tgt := 32) dX1_ringOf_27 (by decide) (fun c27 => ?_) (fun c27 => absurd c27.symm (show nI s ≠ -1 from fun q => nI_pos (n := s) (by omega) (by rw [q]; decide)))
      refine J_iinc (pc := 32) (v := 1) dX1_ringOf_32 rfl (by decide) rfl ?_
      refine J_goto (pc := 35) (tgt := 4) dX1_ringOf_35 (by decide) ?_
      refine hN (rgv_no (fun j h1 h2 => ?_)) _
      by_cases hj : j ≤ i
      · exact hno j h1 hj
      · rw [itv_none (hnx.trans hw) j (by omega)]; exact fun q => by cases q
    | some w =>
      have wn : w < dNs d := (hv.2.2.2.2.1 v w hw).2
      refine J_istore_n (pc := 24) dX1_ringOf_24 (by decide) rfl ?_
      refine J_iload_n (pc := 25) dX1_ringOf_25 rfl ?_
      refine J_iload_n (pc := 26) dX1_ringOf_26 rfl ?_
      refine J_icmp_ne (pc := 27) (tgt := 32) dX1_ringOf_27 (by decide) (fun c27 => ?_) (fun c27 => ?_)
      · refine J_iinc (pc := 32) (v := 1) dX1_ringOf_32 rfl (by decide) rfl ?_
        refine J_goto (pc := 35) (tgt := 4) dX1_ringOf_35 (by decide) ?_
        refine ih w (hnx.trans hw) (fun j h1 h2 => ?_)
        by_cases hj : j ≤ i
        · exact hno j h1 hj
        · rw [show j = i + 1 by omega, hnx, hw]
          intro q
          cases q
          exact c27 rfl
      · have hws : w = s := (nI_eq (by omega) (by omega)).mp c27
        subst hws
        refine J_iload_n (pc := 30) dX1_ringOf_30 rfl ?_
        exact J_iret (pc := 31) rfl rfl rfl dX1_ringOf_31 (rq hQ (by rw [rgv_at (hnx.trans hw) (by omega) (fun j h1 h2 => hno j h1 (by omega)) (show i + 1 ≤ 8 by omega), ix_nI]; rfl) rfl)
theorem r_X10_isWithin {g : Gp} {S : Sx} {x lo hi : Int32} : RT g mX10_isWithin 0 [.int x, .int lo, .int hi] S (some (.int (bI (decide (lo ≤ x ∧ x ≤ hi))))) S := by
  refine RT_ofQ ⟨rfl, rfl⟩ (Nat.le_of_ble_eq_true rfl) (fun sz Q hQ => ?_)
  refine J_iload_n (pc := 0) dX10_isWithin_0 rfl ?_
  refine J_iload_n (pc := 1) dX10_isWithin_1 rfl ?_
  refine J_icmp_lt (pc := 2) (tgt := 14) dX10_isWithin_2 (by decide) (fun c2 => ?_) (fun c2 => ?_)
  · refine J_iconst (pc := 14) (v := 0) dX10_isWithin_14 (by decide) ?_
    exact J_iret (pc := 15) rfl rfl rfl dX10_isWithin_15 (rq hQ (by first | exact Eq.symm (bI_t ⟨Int32.not_lt.mp c2, Int32.not_lt.mp c7⟩) | exact Eq.symm (bI_f (fun q => Int32.not_le.mpr c2 q.1)) | exact Eq.symm (bI_f (fun q => Int32.not_le.mpr c7 q.2))) rfl)
  · refine J_iload_n (pc := 5) dX10_isWithin_5 rfl ?_
    refine J_iload_n (pc := 6) dX10_isWithin_6 rfl ?_
    refine J_icmp_gt (pc := 7) (tgt := 14) dX10_isWithin_7 (by decide) (fun c7 => ?_) (fun c7 => ?_)
    · refine J_iconst (pc := 14) (v := 0) dX10_isWithin_14 (by decide) ?_
      exact J_iret (pc := 15) rfl rfl rfl dX10_isWithin_15 (rq hQ (by first | exact Eq.symm (bI_t ⟨Int32.not_lt.mp c2, Int32.not_lt.mp c7⟩) | exact Eq.symm (bI_f (fun q => Int32.not_le.mpr c2 q.1)) | exact Eq.symm (bI_f (fun q => Int32.not_le.mpr c7 q.2))) rfl)
    · refine J_iconst (pc := 10) (v := 1) dX10_isWithin_10 (by decide) ?_
      refine J_goto (pc := 11) (tgt := 15) dX10_isWithin_11 (by decide) ?_
      exact J_iret (pc := 15) rfl rfl rfl dX10_isWithin_15 (rq hQ (by first | exact Eq.symm (bI_t ⟨Int32.not_lt.mp c2, Int32.not_lt.mp c7⟩) | exact Eq.symm (bI_f (fun q => Int32.not_le.mpr c2 q.1)) | exact Eq.symm (bI_f (fun q => Int32.not_le.mpr c7 q.2))) rfl)
theorem r_X10_needElement_ok {g : Gp} {S : Sx}  : RT g mX10_needElement 0 [.ref 0, .int 1] S none S := by
  refine RT_ofQ ⟨rfl, rfl⟩ (Nat.le_of_ble_eq_true rfl) (fun sz Q hQ => ?_)
  refine J_iload_n (pc := 0) dX10_needElement_0 rfl ?_
  refine J_if_ne (pc := 1) (tgt := 25) dX10_needElement_1 (by decide) (fun c1 => ?_) (fun c1 => absurd c1 (by decide))
  exact J_ret (pc := 25) rfl rfl dX10_needElement_25 (rqv hQ rfl)
theorem r_X10_needArgument_ok {g : Gp} {S : Sx}  : RT g mX10_needArgument 0 [.ref 0, .int 1] S none S := by
  refine RT_ofQ ⟨rfl, rfl⟩ (Nat.le_of_ble_eq_true rfl) (fun sz Q hQ => ?_)
  refine J_iload_n (pc := 0) dX10_needArgument_0 rfl ?_
  refine J_if_ne (pc := 1) (tgt := 25) dX10_needArgument_1 (by decide) (fun c1 => ?_) (fun c1 => absurd c1 (by decide))
  exact J_ret (pc := 25) rfl rfl dX10_needArgument_25 (rqv hQ rfl)
