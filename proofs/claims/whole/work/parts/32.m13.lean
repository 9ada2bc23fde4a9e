def hbv (a b v w : Int32) : Int32 := if a = 0 then (if b = 0 then v else -1) else (if b = 0 then w else 0)
def tStep (v w a b : Int32) (s : Int32 × Int32 × Int32) : Int32 × Int32 × Int32 := if hbv (1 - a) b v w ≤ hbv a b v w ∧ hbv (1 - b) a v w ≤ hbv b a v w then (s.1 + 1, (if s.1 = 0 then 10 * a + b else s.2.1), (if s.1 = 0 then hbv a b v w + hbv b a v w else s.2.2)) else s
def tIn (v w : Int32) (i : Nat) (s : Int32 × Int32 × Int32) : Nat → Int32 × Int32 × Int32
  | 0 => s
  | j + 1 => tStep v w (ix i) (ix j) (tIn v w i s j)
def tOut (v w : Int32) : Nat → Int32 × Int32 × Int32
  | 0 => (0, -1, 0)
  | i + 1 => tIn v w i (tOut v w i) 2
theorem r_X11_hasBy {g : Gp} {S : Sx} {a b v w : Int32} : RT g mX11_hasBy 0 [.int a, .int b, .int v, .int w] S (some (.int (hbv a b v w))) S := by
  refine RT_ofQ ⟨rfl, rfl⟩ (Nat.le_of_ble_eq_true rfl) (fun sz Q hQ => ?_)
  refine J_iload_n (pc := 0) dX11_hasBy_0 rfl ?_
  refine J_if_ne (pc := 1) (tgt := 16) dX11_hasBy_1 (by decide) (fun c1 => ?_) (fun c1 => ?_)
  · refine J_iload_n (pc := 16) dX11_hasBy_16 rfl ?_
    refine J_if_ne (pc := 17) (tgt := 24) dX11_hasBy_17 (by decide) (fun c17 => ?_) (fun c17 => ?_)
    · refine J_iconst (pc := 24) (v := 0) dX11_hasBy_24 (by decide) ?_
      exact J_iret (pc := 25) rfl rfl rfl dX11_hasBy_25 (rq hQ (by unfold hbv; first | (rw [if_pos c1, if_pos c5]; done) | (rw [if_pos c1, if_neg c5]; done) | (rw [if_neg c1, if_pos c17]; done) | (rw [if_neg c1, if_neg c17]; done)) rfl)
    · refine J_iload_n (pc := 20) dX11_hasBy_20 rfl ?_
      refine J_goto (pc := 21) (tgt := 25) dX11_hasBy_21 (by decide) ?_
      exact J_iret (pc := 25) rfl rfl rfl dX11_hasBy_25 (rq hQ (by unfold hbv; first | (rw [if_pos c1, if_pos c5]; done) | (rw [if_pos c1, if_neg c5]; done) | (rw [if_neg c1, if_pos c17]; done) | (rw [if_neg c1, if_neg c17]; done)) rfl)
  · refine J_iload_n (pc := 4) dX11_hasBy_4 rfl ?_
    refine J_if_ne (pc := 5) (tgt := 12) dX11_hasBy_5 (by decide) (fun c5 => ?_) (fun c5 => ?_)
    · refine J_iconst (pc := 12) (v := -1) dX11_hasBy_12 (by decide) ?_
      refine J_goto (pc := 13) (tgt := 25) dX11_hasBy_13 (by decide) ?_
      exact J_iret (pc := 25) rfl rfl rfl dX11_hasBy_25 (rq hQ (by unfold hbv; first | (rw [if_pos c1, if_pos c5]; done) | (rw [if_pos c1, if_neg c5]; done) | (rw [if_neg c1, if_pos c17]; done) | (rw [if_neg c1, if_neg c17]; done)) rfl)
    · refine J_iload_n (pc := 8) dX11_hasBy_8 rfl ?_
      refine J_goto (pc := 9) (tgt := 25) dX11_hasBy_9 (by decide) ?_
      exact J_iret (pc := 25) rfl rfl rfl dX11_hasBy_25 (rq hQ (by unfold hbv; first | (rw [if_pos c1, if_pos c5]; done) | (rw [if_pos c1, if_neg c5]; done) | (rw [if_neg c1, if_pos c17]; done) | (rw [if_neg c1, if_neg c17]; done)) rfl)
theorem r_X11_isBest {g : Gp} {S : Sx} {a b v w : Int32} : RT g mX11_isBest 1 [.int a, .int b, .int v, .int w] S (some (.int (bI (decide (hbv (1 - a) b v w ≤ hbv a b v w))))) S := by
  refine RT_ofQ ⟨rfl, rfl⟩ (Nat.le_of_ble_eq_true rfl) (fun sz Q hQ => ?_)
  refine J_iload_n (pc := 0) dX11_isBest_0 rfl ?_
  refine J_iload_n (pc := 1) dX11_isBest_1 rfl ?_
  refine J_iload_n (pc := 2) dX11_isBest_2 rfl ?_
  refine J_iload_n (pc := 3) dX11_isBest_3 rfl ?_
  refine J_csr (pc := 4) (N := mX11_hasBy) dX11_isBest_4 ml_X11_377 cf_X11_hasBy cs_X11_hasBy r_X11_hasBy rfl rfl (Nat.le_of_ble_eq_true rfl) (by decide) ?_
  refine J_iconst (pc := 7) (v := 1) dX11_isBest_7 (by decide) ?_
  refine J_iload_n (pc := 8) dX11_isBest_8 rfl ?_
  refine J_isub (pc := 9) dX11_isBest_9 ?_
  refine J_iload_n (pc := 10) dX11_isBest_10 rfl ?_
  refine J_iload_n (pc := 11) dX11_isBest_11 rfl ?_
  refine J_iload_n (pc := 12) dX11_isBest_12 rfl ?_
  refine J_csr (pc := 13) (N := mX11_hasBy) dX11_isBest_13 ml_X11_377 cf_X11_hasBy cs_X11_hasBy r_X11_hasBy rfl rfl (Nat.le_of_ble_eq_true rfl) (by decide) ?_
  refine J_icmp_lt (pc := 16) (tgt := 23) dX11_isBest_16 (by decide) (fun c16 => ?_) (fun c16 => ?_)
  · refine J_iconst (pc := 23) (v := 0) dX11_isBest_23 (by decide) ?_
    exact J_iret (pc := 24) rfl rfl rfl dX11_isBest_24 (rq hQ (by first | exact (bI_f (Int32.not_le.mpr c16)).symm | exact (bI_t (Int32.not_lt.mp c16)).symm) rfl)
  · refine J_iconst (pc := 19) (v := 1) dX11_isBest_19 (by decide) ?_
    refine J_goto (pc := 20) (tgt := 24) dX11_isBest_20 (by decide) ?_
    exact J_iret (pc := 24) rfl rfl rfl dX11_isBest_24 (rq hQ (by first | exact (bI_f (Int32.not_le.mpr c16)).symm | exact (bI_t (Int32.not_lt.mp c16)).symm) rfl)
theorem r_X11_tempted_er {g : Gp} {S : Sx} {v w x : Int32} (hv : ¬ ((0 ≤ v ∧ v ≤ 99) ∧ (0 ≤ w ∧ w ≤ 99) ∧ (0 ≤ x ∧ x ≤ 2))) : RT g mX11_tempted 2 [.ref 59, .int v, .int w, .int x] S (some (.int 0)) (er S 1 1) := by
  refine RT_ofQ ⟨rfl, rfl⟩ (Nat.le_of_ble_eq_true rfl) (fun sz Q hQ => ?_)
  refine J_aload_n (pc := 0) dX11_tempted_0 rfl ?_
  refine J_iconst (pc := 1) (v := 0) dX11_tempted_1 (by decide) ?_
  refine J_puti (pc := 2) dX11_tempted_2 kc11 fl_X11_103 rfl ⟨rfl, rfl⟩ ?_
  refine J_aload_n (pc := 5) dX11_tempted_5 rfl ?_
  refine J_iload_n (pc := 6) dX11_tempted_6 rfl ?_
  refine J_iconst (pc := 7) (v := 0) dX11_tempted_7 (by decide) ?_
  refine J_bipush (pc := 8) (v := 99) dX11_tempted_8 (by decide) ?_
  refine J_csr (pc := 10) (N := mX11_in) dX11_tempted_10 ml_X11_137 cf_X11_in cs_X11_in r_X11_in rfl rfl (Nat.le_of_ble_eq_true rfl) (by decide) ?_
  refine J_ifp_eq (pc := 13) (tgt := 35) dX11_tempted_13 (by decide) (fun c13 => ?_) (fun c13 => ?_)
  · refine J_iconst (pc := 35) (v := 1) dX11_tempted_35 (by decide) ?_
    refine J_goto (pc := 36) (tgt := 40) dX11_tempted_36 (by decide) ?_
    refine J_iconst (pc := 40) (v := 1) dX11_tempted_40 (by decide) ?_
    refine J_iconst (pc := 41) (v := 1) dX11_tempted_41 (by decide) ?_
    refine J_cvr (pc := 42) (N := mX11_bad) dX11_tempted_42 ml_X11_183 cf_X11_bad cv_X11_bad (r_X11_bad_t (k := 1) rfl (by decide) (by decide) rfl) rfl rfl (Nat.le_of_ble_eq_true rfl) (by decide) (rv_of (ci := 11) rfl rfl rfl) ?_
    refine J_if_eq (pc := 45) (tgt := 50) dX11_tempted_45 (by decide) (fun c45 => absurd c45 (by decide)) (fun c45 => ?_)
    refine J_iconst (pc := 48) (v := 0) dX11_tempted_48 (by decide) ?_
    exact J_iret (pc := 49) rfl rfl rfl dX11_tempted_49 (rq hQ (by first | rfl | simp [bI, *] | simp_all [bI]) rfl)
  · refine J_iload_n (pc := 16) dX11_tempted_16 rfl ?_
    refine J_iconst (pc := 17) (v := 0) dX11_tempted_17 (by decide) ?_
    refine J_bipush (pc := 18) (v := 99) dX11_tempted_18 (by decide) ?_
    refine J_csr (pc := 20) (N := mX11_in) dX11_tempted_20 ml_X11_137 cf_X11_in cs_X11_in r_X11_in rfl rfl (Nat.le_of_ble_eq_true rfl) (by decide) ?_
    refine J_ifp_eq (pc := 23) (tgt := 35) dX11_tempted_23 (by decide) (fun c23 => ?_) (fun c23 => ?_)
    · refine J_iconst (pc := 35) (v := 1) dX11_tempted_35 (by decide) ?_
      refine J_goto (pc := 36) (tgt := 40) dX11_tempted_36 (by decide) ?_
      refine J_iconst (pc := 40) (v := 1) dX11_tempted_40 (by decide) ?_
      refine J_iconst (pc := 41) (v := 1) dX11_tempted_41 (by decide) ?_
      refine J_cvr (pc := 42) (N := mX11_bad) dX11_tempted_42 ml_X11_183 cf_X11_bad cv_X11_bad (r_X11_bad_t (k := 1) rfl (by decide) (by decide) rfl) rfl rfl (Nat.le_of_ble_eq_true rfl) (by decide) (rv_of (ci := 11) rfl rfl rfl) ?_
      refine J_if_eq (pc := 45) (tgt := 50) dX11_tempted_45 (by decide) (fun c45 => absurd c45 (by decide)) (fun c45 => ?_)
      refine J_iconst (pc := 48) (v := 0) dX11_tempted_48 (by decide) ?_
      exact J_iret (pc := 49) rfl rfl rfl dX11_tempted_49 (rq hQ (by first | rfl | simp [bI, *] | simp_all [bI]) rfl)
    · refine J_iload_n (pc := 26) dX11_tempted_26 rfl ?_
      refine J_iconst (pc := 27) (v := 0) dX11_tempted_27 (by decide) ?_
      refine J_iconst (pc := 28) (v := 2) dX11_tempted_28 (by decide) ?_
      refine J_csr (pc := 29) (N := mX11_in) dX11_tempted_29 ml_X11_137 cf_X11_in cs_X11_in r_X11_in rfl rfl (Nat.le_of_ble_eq_true rfl) (by decide) ?_
      refine J_ifp_ne (pc := 32) (tgt := 39) dX11_tempted_32 (by decide) (fun c32 => absurd (show (0 ≤ v ∧ v ≤ 99) ∧ (0 ≤ w ∧ w ≤ 99) ∧ (0 ≤ x ∧ x ≤ 2) from ⟨c13, c23, c32⟩) hv) (fun c32 => ?_)
      refine J_iconst (pc := 35) (v := 1) dX11_tempted_35 (by decide) ?_
      refine J_goto (pc := 36) (tgt := 40) dX11_tempted_36 (by decide) ?_
      refine J_iconst (pc := 40) (v := 1) dX11_tempted_40 (by decide) ?_
      refine J_iconst (pc := 41) (v := 1) dX11_tempted_41 (by decide) ?_
      refine J_cvr (pc := 42) (N := mX11_bad) dX11_tempted_42 ml_X11_183 cf_X11_bad cv_X11_bad (r_X11_bad_t (k := 1) rfl (by decide) (by decide) rfl) rfl rfl (Nat.le_of_ble_eq_true rfl) (by decide) (rv_of (ci := 11) rfl rfl rfl) ?_
      refine J_if_eq (pc := 45) (tgt := 50) dX11_tempted_45 (by decide) (fun c45 => absurd c45 (by decide)) (fun c45 => ?_)
      refine J_iconst (pc := 48) (v := 0) dX11_tempted_48 (by decide) ?_
      exact J_iret (pc := 49) rfl rfl rfl dX11_tempted_49 (rq hQ (by first | rfl | simp [bI, *] | simp_all [bI]) rfl)
theorem r_X11_tempted {g : Gp} {S : Sx} {v w x : Int32} (hv : (0 ≤ v ∧ v ≤ 99) ∧ (0 ≤ w ∧ w ≤ 99) ∧ (0 ≤ x ∧ x ≤ 2)) : RT g mX11_tempted 2 [.ref 59, .int v, .int w, .int x] S (some (.int (if x = 0 then (tOut v w 2).1 else if x = 1 then (tOut v w 2).2.1 else (tOut v w 2).2.2))) (S0 S) := by
  refine RT_ofQ ⟨rfl, rfl⟩ (Nat.le_of_ble_eq_true rfl) (fun sz Q hQ => ?_)
  obtain ⟨v1, v2, v3⟩ := hv
  refine J_aload_n (pc := 0) dX11_tempted_0 rfl ?_
  refine J_iconst (pc := 1) (v := 0) dX11_tempted_1 (by decide) ?_
  refine J_puti (pc := 2) dX11_tempted_2 kc11 fl_X11_103 rfl ⟨rfl, rfl⟩ ?_
  refine J_aload_n (pc := 5) dX11_tempted_5 rfl ?_
  refine J_iload_n (pc := 6) dX11_tempted_6 rfl ?_
  refine J_iconst (pc := 7) (v := 0) dX11_tempted_7 (by decide) ?_
  refine J_bipush (pc := 8) (v := 99) dX11_tempted_8 (by decide) ?_
  refine J_csr (pc := 10) (N := mX11_in) dX11_tempted_10 ml_X11_137 cf_X11_in cs_X11_in r_X11_in rfl rfl (Nat.le_of_ble_eq_true rfl) (by decide) ?_
  refine J_ifp_eq (pc := 13) (tgt := 35) dX11_tempted_13 (by decide) (fun c13 => absurd v1 c13) (fun c13 => ?_)
  refine J_iload_n (pc := 16) dX11_tempted_16 rfl ?_
  refine J_iconst (pc := 17) (v := 0) dX11_tempted_17 (by decide) ?_
  refine J_bipush (pc := 18) (v := 99) dX11_tempted_18 (by decide) ?_
  refine J_csr (pc := 20) (N := mX11_in) dX11_tempted_20 ml_X11_137 cf_X11_in cs_X11_in r_X11_in rfl rfl (Nat.le_of_ble_eq_true rfl) (by decide) ?_
  refine J_ifp_eq (pc := 23) (tgt := 35) dX11_tempted_23 (by decide) (fun c23 => absurd v2 c23) (fun c23 => ?_)
  refine J_iload_n (pc := 26) dX11_tempted_26 rfl ?_
  refine J_iconst (pc := 27) (v := 0) dX11_tempted_27 (by decide) ?_
  refine J_iconst (pc := 28) (v := 2) dX11_tempted_28 (by decide) ?_
  refine J_csr (pc := 29) (N := mX11_in) dX11_tempted_29 ml_X11_137 cf_X11_in cs_X11_in r_X11_in rfl rfl (Nat.le_of_ble_eq_true rfl) (by decide) ?_
  refine J_ifp_ne (pc := 32) (tgt := 39) dX11_tempted_32 (by decide) (fun c32 => ?_) (fun c32 => absurd v3 c32)
  refine J_iconst (pc := 39) (v := 0) dX11_tempted_39 (by decide) ?_
  refine J_iconst (pc := 40) (v := 1) dX11_tempted_40 (by decide) ?_
  refine J_iconst (pc := 41) (v := 1) dX11_tempted_41 (by decide) ?_
  refine J_cvr (pc := 42) (N := mX11_bad) dX11_tempted_42 ml_X11_183 cf_X11_bad cv_X11_bad (r_X11_bad_f rfl) rfl rfl (Nat.le_of_ble_eq_true rfl) (by decide) (rv_of (ci := 11) rfl rfl rfl) ?_
  refine J_if_eq (pc := 45) (tgt := 50) dX11_tempted_45 (by decide) (fun c45 => ?_) (fun c45 => absurd rfl c45)
  refine J_iconst (pc := 50) (v := 0) dX11_tempted_50 (by decide) ?_
  refine J_istore (pc := 51) dX11_tempted_51 (by decide) rfl ?_
  refine J_iconst (pc := 53) (v := -1) dX11_tempted_53 (by decide) ?_
  refine J_istore (pc := 54) dX11_tempted_54 (by decide) rfl ?_
  refine J_iconst (pc := 56) (v := 0) dX11_tempted_56 (by decide) ?_
  refine J_istore (pc := 57) dX11_tempted_57 (by decide) rfl ?_
  refine J_iconst (pc := 59) (v := 0) dX11_tempted_59 (by decide) ?_
  refine J_istore (pc := 60) dX11_tempted_60 (by decide) rfl ?_
  refine J_forget (ls' := [some (.ref 59), some (.int v), some (.int w), some (.int x), some (.int (tOut v w 0).1), some (.int (tOut v w 0).2.1), some (.int (tOut v w 0).2.2), some (.int (ix 0)), none]) (fun i u hu => hu) ?_
  refine dn_ind (n := 2) (P := fun i => J g mX11_tempted 2 [] 62 [some (.ref 59), some (.int v), some (.int w), some (.int x), some (.int (tOut v w i).1), some (.int (tOut v w i).2.1), some (.int (tOut v w i).2.2), some (.int (ix i)), none] [] (hs (S0 S)) sz 0 0 Q) ?_ (fun i hi ih => ?_) 0 (Nat.zero_le _)
  · refine J_iload (pc := 62) dX11_tempted_62 rfl ?_
    refine J_iconst (pc := 64) (v := 2) dX11_tempted_64 (by decide) ?_
    refine J_icmp_ge (pc := 65) (tgt := 170) dX11_tempted_65 (by decide) (fun c65 => ?_) (fun c65 => absurd (ix_ge (n := 2) rfl) c65)
    refine J_iload_n (pc := 170) dX11_tempted_170 rfl ?_
    refine J_if_ne (pc := 171) (tgt := 179) dX11_tempted_171 (by decide) (fun c171 => ?_) (fun c171 => ?_)
    · refine J_iload_n (pc := 179) dX11_tempted_179 rfl ?_
      refine J_iconst (pc := 180) (v := 1) dX11_tempted_180 (by decide) ?_
      refine J_icmp_ne (pc := 181) (tgt := 189) dX11_tempted_181 (by decide) (fun c181 => ?_) (fun c181 => ?_)
      · refine J_iload (pc := 189) dX11_tempted_189 rfl ?_
        exact J_iret (pc := 191) rfl rfl rfl dX11_tempted_191 (rq hQ (by first | exact (if_pos c171).symm | (rw [if_neg c171]; first | exact (if_pos c181).symm | exact (if_neg c181).symm)) rfl)
      · refine J_iload (pc := 184) dX11_tempted_184 rfl ?_
        refine J_goto (pc := 186) (tgt := 191) dX11_tempted_186 (by decide) ?_
        exact J_iret (pc := 191) rfl rfl rfl dX11_tempted_191 (rq hQ (by first | exact (if_pos c171).symm | (rw [if_neg c171]; first | exact (if_pos c181).symm | exact (if_neg c181).symm)) rfl)
    · refine J_iload (pc := 174) dX11_tempted_174 rfl ?_
      refine J_goto (pc := 176) (tgt := 191) dX11_tempted_176 (by decide) ?_
      exact J_iret (pc := 191) rfl rfl rfl dX11_tempted_191 (rq hQ (by first | exact (if_pos c171).symm | (rw [if_neg c171]; first | exact (if_pos c181).symm | exact (if_neg c181).symm)) rfl)
  · refine J_iload (pc := 62) dX11_tempted_62 rfl ?_
    refine J_iconst (pc := 64) (v := 2) dX11_tempted_64 (by decide) ?_
    refine J_icmp_ge (pc := 65) (tgt := 170) dX11_tempted_65 (by decide) (fun c65 => absurd c65 (ix_lt (n := 2) rfl hi (by decide))) (fun c65 => ?_)
    refine J_iconst (pc := 68) (v := 0) dX11_tempted_68 (by decide) ?_
    refine J_istore (pc := 69) dX11_tempted_69 (by decide) rfl ?_
    have ih0 := ih
    clear ih
    refine dn_ind (n := 2) (P := fun j => J g mX11_tempted 2 [] 71 [some (.ref 59), some (.int v), some (.int w), some (.int x), some (.int (tIn v w i (tOut v w i) j).1), some (.int (tIn v w i (tOut v w i) j).2.1), some (.int (tIn v w i (tOut v w i) j).2.2), some (.int (ix i)), some (.int (ix j))] [] (hs (S0 S)) sz 0 0 Q) ?_ (fun j hi ih => ?_) 0 (Nat.zero_le _)
    · refine J_iload (pc := 71) dX11_tempted_71 rfl ?_
      refine J_iconst (pc := 73) (v := 2) dX11_tempted_73 (by decide) ?_
      refine J_icmp_ge (pc := 74) (tgt := 164) dX11_tempted_74 (by decide) (fun c74 => ?_) (fun c74 => absurd (ix_ge (n := 2) rfl) c74)
      refine J_iinc (pc := 164) (v := 1) dX11_tempted_164 rfl (by decide) rfl ?_
      refine J_goto (pc := 167) (tgt := 62) dX11_tempted_167 (by decide) ?_
      refine J_forget (ls' := [some (.ref 59), some (.int v), some (.int w), some (.int x), some (.int (tOut v w (i + 1)).1), some (.int (tOut v w (i + 1)).2.1), some (.int (tOut v w (i + 1)).2.2), some (.int (ix (i + 1))), none]) (fun k u hu => by
        rcases k with _ | _ | _ | _ | _ | _ | _ | _ | _ | k
        all_goals first | exact hu | (simp at hu)) ?_
      exact ih0
    · refine J_iload (pc := 71) dX11_tempted_71 rfl ?_
      refine J_iconst (pc := 73) (v := 2) dX11_tempted_73 (by decide) ?_
      refine J_icmp_ge (pc := 74) (tgt := 164) dX11_tempted_74 (by decide) (fun c74 => absurd c74 (ix_lt (n := 2) rfl hi (by decide))) (fun c74 => ?_)
      refine J_iload (pc := 77) dX11_tempted_77 rfl ?_
      refine J_iload (pc := 79) dX11_tempted_79 rfl ?_
      refine J_iload_n (pc := 81) dX11_tempted_81 rfl ?_
      refine J_iload_n (pc := 82) dX11_tempted_82 rfl ?_
      refine J_csr (pc := 83) (N := mX11_isBest) dX11_tempted_83 ml_X11_381 cf_X11_isBest cs_X11_isBest r_X11_isBest rfl rfl (Nat.le_of_ble_eq_true rfl) (by decide) ?_
      refine J_ifp_eq (pc := 86) (tgt := 158) dX11_tempted_86 (by decide) (fun c86 => ?_) (fun c86 => ?_)
      · have e : tIn v w i (tOut v w i) (j + 1) = tStep v w (ix i) (ix j) (tIn v w i (tOut v w i) j) := rfl
        unfold tStep at e
        first
          | exact absurd c137 c106
          | exact absurd c106 c137
          | (rw [if_neg (fun q => c86 q.1)] at e; rw [e] at ih; refine J_iinc (pc := 158) (v := 1) dX11_tempted_158 rfl (by decide) rfl ?_; refine J_goto (pc := 161) (tgt := 71) dX11_tempted_161 (by decide) ?_; exact ih)
          | (rw [if_neg (fun q => c98 q.2)] at e; rw [e] at ih; refine J_iinc (pc := 158) (v := 1) dX11_tempted_158 rfl (by decide) rfl ?_; refine J_goto (pc := 161) (tgt := 71) dX11_tempted_161 (by decide) ?_; exact ih)
          | (rw [if_pos ⟨c86, c98⟩, if_pos c106, if_pos c137] at e; rw [e] at ih; refine J_iinc (pc := 158) (v := 1) dX11_tempted_158 rfl (by decide) rfl ?_; refine J_goto (pc := 161) (tgt := 71) dX11_tempted_161 (by decide) ?_; exact ih)
          | (rw [if_pos ⟨c86, c98⟩, if_neg c106, if_neg c137] at e; rw [e] at ih; refine J_iinc (pc := 158) (v := 1) dX11_tempted_158 rfl (by decide) rfl ?_; refine J_goto (pc := 161) (tgt := 71) dX11_tempted_161 (by decide) ?_; exact ih)
      · refine J_iload (pc := 89) dX11_tempted_89 rfl ?_
        refine J_iload (pc := 91) dX11_tempted_91 rfl ?_
        refine J_iload_n (pc := 93) dX11_tempted_93 rfl ?_
        refine J_iload_n (pc := 94) dX11_tempted_94 rfl ?_
        refine J_csr (pc := 95) (N := mX11_isBest) dX11_tempted_95 ml_X11_381 cf_X11_isBest cs_X11_isBest r_X11_isBest rfl rfl (Nat.le_of_ble_eq_true rfl) (by decide) ?_
        refine J_ifp_ne (pc := 98) (tgt := 104) dX11_tempted_98 (by decide) (fun c98 => ?_) (fun c98 => ?_)
        · refine J_iload (pc := 104) dX11_tempted_104 rfl ?_
          refine J_if_ne (pc := 106) (tgt := 131) dX11_tempted_106 (by decide) (fun c106 => ?_) (fun c106 => ?_)
          · refine J_iload (pc := 131) dX11_tempted_131 rfl ?_
            refine J_istore (pc := 133) dX11_tempted_133 (by decide) rfl ?_
            refine J_iload (pc := 135) dX11_tempted_135 rfl ?_
            refine J_if_ne (pc := 137) (tgt := 151) dX11_tempted_137 (by decide) (fun c137 => ?_) (fun c137 => ?_)
            · refine J_iload (pc := 151) dX11_tempted_151 rfl ?_
              refine J_istore (pc := 153) dX11_tempted_153 (by decide) rfl ?_
              refine J_iinc (pc := 155) (v := 1) dX11_tempted_155 rfl (by decide) rfl ?_
              have e : tIn v w i (tOut v w i) (j + 1) = tStep v w (ix i) (ix j) (tIn v w i (tOut v w i) j) := rfl
              unfold tStep at e
              first
                | exact absurd c137 c106
                | exact absurd c106 c137
                | (rw [if_neg (fun q => c86 q.1)] at e; rw [e] at ih; refine J_iinc (pc := 158) (v := 1) dX11_tempted_158 rfl (by decide) rfl ?_; refine J_goto (pc := 161) (tgt := 71) dX11_tempted_161 (by decide) ?_; exact ih)
                | (rw [if_neg (fun q => c98 q.2)] at e; rw [e] at ih; refine J_iinc (pc := 158) (v := 1) dX11_tempted_158 rfl (by decide) rfl ?_; refine J_goto (pc := 161) (tgt := 71) dX11_tempted_161 (by decide) ?_; exact ih)
                | (rw [if_pos ⟨c86, c98⟩, if_pos c106, if_pos c137] at e; rw [e] at ih; refine J_iinc (pc := 158) (v := 1) dX11_tempted_158 rfl (by decide) rfl ?_; refine J_goto (pc := 161) (tgt := 71) dX11_tempted_161 (by decide) ?_; exact ih)
                | (rw [if_pos ⟨c86, c98⟩, if_neg c106, if_neg c137] at e; rw [e] at ih; refine J_iinc (pc := 158) (v := 1) dX11_tempted_158 rfl (by decide) rfl ?_; refine J_goto (pc := 161) (tgt := 71) dX11_tempted_161 (by decide) ?_; exact ih)
            · refine J_bipush (pc := 140) (v := 10) dX11_tempted_140 (by decide) ?_
              refine J_iload (pc := 142) dX11_tempted_142 rfl ?_
              refine J_imul (pc := 144) dX11_tempted_144 ?_
              refine J_iload (pc := 145) dX11_tempted_145 rfl ?_
              refine J_iadd (pc := 147) dX11_tempted_147 ?_
              refine J_goto (pc := 148) (tgt := 153) dX11_tempted_148 (by decide) ?_
              refine J_istore (pc := 153) dX11_tempted_153 (by decide) rfl ?_
              refine J_iinc (pc := 155) (v := 1) dX11_tempted_155 rfl (by decide) rfl ?_
              have e : tIn v w i (tOut v w i) (j + 1) = tStep v w (ix i) (ix j) (tIn v w i (tOut v w i) j) := rfl
              unfold tStep at e
              first
                | exact absurd c137 c106
                | exact absurd c106 c137
                | (rw [if_neg (fun q => c86 q.1)] at e; rw [e] at ih; refine J_iinc (pc := 158) (v := 1) dX11_tempted_158 rfl (by decide) rfl ?_; refine J_goto (pc := 161) (tgt := 71) dX11_tempted_161 (by decide) ?_; exact ih)
                | (rw [if_neg (fun q => c98 q.2)] at e; rw [e] at ih; refine J_iinc (pc := 158) (v := 1) dX11_tempted_158 rfl (by decide) rfl ?_; refine J_goto (pc := 161) (tgt := 71) dX11_tempted_161 (by decide) ?_; exact ih)
                | (rw [if_pos ⟨c86, c98⟩, if_pos c106, if_pos c137] at e; rw [e] at ih; refine J_iinc (pc := 158) (v := 1) dX11_tempted_158 rfl (by decide) rfl ?_; refine J_goto (pc := 161) (tgt := 71) dX11_tempted_161 (by decide) ?_; exact ih)
                | (rw [if_pos ⟨c86, c98⟩, if_neg c106, if_neg c137] at e; rw [e] at ih; refine J_iinc (pc := 158) (v := 1) dX11_tempted_158 rfl (by decide) rfl ?_; refine J_goto (pc := 161) (tgt := 71) dX11_tempted_161 (by decide) ?_; exact ih)
          · refine J_iload (pc := 109) dX11_tempted_109 rfl ?_
            refine J_iload (pc := 111) dX11_tempted_111 rfl ?_
            refine J_iload_n (pc := 113) dX11_tempted_113 rfl ?_
            refine J_iload_n (pc := 114) dX11_tempted_114 rfl ?_
            refine J_csr (pc := 115) (N := mX11_hasBy) dX11_tempted_115 ml_X11_377 cf_X11_hasBy cs_X11_hasBy r_X11_hasBy rfl rfl (Nat.le_of_ble_eq_true rfl) (by decide) ?_
            refine J_iload (pc := 118) dX11_tempted_118 rfl ?_
            refine J_iload (pc := 120) dX11_tempted_120 rfl ?_
            refine J_iload_n (pc := 122) dX11_tempted_122 rfl ?_
            refine J_iload_n (pc := 123) dX11_tempted_123 rfl ?_
            refine J_csr (pc := 124) (N := mX11_hasBy) dX11_tempted_124 ml_X11_377 cf_X11_hasBy cs_X11_hasBy r_X11_hasBy rfl rfl (Nat.le_of_ble_eq_true rfl) (by decide) ?_
            refine J_iadd (pc := 127) dX11_tempted_127 ?_
            refine J_goto (pc := 128) (tgt := 133) dX11_tempted_128 (by decide) ?_
            refine J_istore (pc := 133) dX11_tempted_133 (by decide) rfl ?_
            refine J_iload (pc := 135) dX11_tempted_135 rfl ?_
            refine J_if_ne (pc := 137) (tgt := 151) dX11_tempted_137 (by decide) (fun c137 => ?_) (fun c137 => ?_)
            · refine J_iload (pc := 151) dX11_tempted_151 rfl ?_
              refine J_istore (pc := 153) dX11_tempted_153 (by decide) rfl ?_
              refine J_iinc (pc := 155) (v := 1) dX11_tempted_155 rfl (by decide) rfl ?_
              have e : tIn v w i (tOut v w i) (j + 1) = tStep v w (ix i) (ix j) (tIn v w i (tOut v w i) j) := rfl
              unfold tStep at e
              first
                | exact absurd c137 c106
                | exact absurd c106 c137
                | (rw [if_neg (fun q => c86 q.1)] at e; rw [e] at ih; refine J_iinc (pc := 158) (v := 1) dX11_tempted_158 rfl (by decide) rfl ?_; refine J_goto (pc := 161) (tgt := 71) dX11_tempted_161 (by decide) ?_; exact ih)
                | (rw [if_neg (fun q => c98 q.2)] at e; rw [e] at ih; refine J_iinc (pc := 158) (v := 1) dX11_tempted_158 rfl (by decide) rfl ?_; refine J_goto (pc := 161) (tgt := 71) dX11_tempted_161 (by decide) ?_; exact ih)
                | (rw [if_pos ⟨c86, c98⟩, if_pos c106, if_pos c137] at e; rw [e] at ih; refine J_iinc (pc := 158) (v := 1) dX11_tempted_158 rfl (by decide) rfl ?_; refine J_goto (pc := 161) (tgt := 71) dX11_tempted_161 (by decide) ?_; exact ih)
                | (rw [if_pos ⟨c86, c98⟩, if_neg c106, if_neg c137] at e; rw [e] at ih; refine J_iinc (pc := 158) (v := 1) dX11_tempted_158 rfl (by decide) rfl ?_; refine J_goto (pc := 161) (tgt := 71) dX11_tempted_161 (by decide) ?_; exact ih)
            · refine J_bipush (pc := 140) (v := 10) dX11_tempted_140 (by decide) ?_
              refine J_iload (pc := 142) dX11_tempted_142 rfl ?_
              refine J_imul (pc := 144) dX11_tempted_144 ?_
              refine J_iload (pc := 145) dX11_tempted_145 rfl ?_
              refine J_iadd (pc := 147) dX11_tempted_147 ?_
              refine J_goto (pc := 148) (tgt := 153) dX11_tempted_148 (by decide) ?_
              refine J_istore (pc := 153) dX11_tempted_153 (by decide) rfl ?_
              refine J_iinc (pc := 155) (v := 1) dX11_tempted_155 rfl (by decide) rfl ?_
              have e : tIn v w i (tOut v w i) (j + 1) = tStep v w (ix i) (ix j) (tIn v w i (tOut v w i) j) := rfl
              unfold tStep at e
              first
                | exact absurd c137 c106
                | exact absurd c106 c137
                | (rw [if_neg (fun q => c86 q.1)] at e; rw [e] at ih; refine J_iinc (pc := 158) (v := 1) dX11_tempted_158 rfl (by decide) rfl ?_; refine J_goto (pc := 161) (tgt := 71) dX11_tempted_161 (by decide) ?_; exact ih)
                | (rw [if_neg (fun q => c98 q.2)] at e; rw [e] at ih; refine J_iinc (pc := 158) (v := 1) dX11_tempted_158 rfl (by decide) rfl ?_; refine J_goto (pc := 161) (tgt := 71) dX11_tempted_161 (by decide) ?_; exact ih)
                | (rw [if_pos ⟨c86, c98⟩, if_pos c106, if_pos c137] at e; rw [e] at ih; refine J_iinc (pc := 158) (v := 1) dX11_tempted_158 rfl (by decide) rfl ?_; refine J_goto (pc := 161) (tgt := 71) dX11_tempted_161 (by decide) ?_; exact ih)
                | (rw [if_pos ⟨c86, c98⟩, if_neg c106, if_neg c137] at e; rw [e] at ih; refine J_iinc (pc := 158) (v := 1) dX11_tempted_158 rfl (by decide) rfl ?_; refine J_goto (pc := 161) (tgt := 71) dX11_tempted_161 (by decide) ?_; exact ih)
        · refine J_goto (pc := 101) (tgt := 158) dX11_tempted_101 (by decide) ?_
          have e : tIn v w i (tOut v w i) (j + 1) = tStep v w (ix i) (ix j) (tIn v w i (tOut v w i) j) := rfl
          unfold tStep at e
          first
            | exact absurd c137 c106
            | exact absurd c106 c137
            | (rw [if_neg (fun q => c86 q.1)] at e; rw [e] at ih; refine J_iinc (pc := 158) (v := 1) dX11_tempted_158 rfl (by decide) rfl ?_; refine J_goto (pc := 161) (tgt := 71) dX11_tempted_161 (by decide) ?_; exact ih)
            | (rw [if_neg (fun q => c98 q.2)] at e; rw [e] at ih; refine J_iinc (pc := 158) (v := 1) dX11_tempted_158 rfl (by decide) rfl ?_; refine J_goto (pc := 161) (tgt := 71) dX11_tempted_161 (by decide) ?_; exact ih)
            | (rw [if_pos ⟨c86, c98⟩, if_pos c106, if_pos c137] at e; rw [e] at ih; refine J_iinc (pc := 158) (v := 1) dX11_tempted_158 rfl (by decide) rfl ?_; refine J_goto (pc := 161) (tgt := 71) dX11_tempted_161 (by decide) ?_; exact ih)
            | (rw [if_pos ⟨c86, c98⟩, if_neg c106, if_neg c137] at e; rw [e] at ih; refine J_iinc (pc := 158) (v := 1) dX11_tempted_158 rfl (by decide) rfl ?_; refine J_goto (pc := 161) (tgt := 71) dX11_tempted_161 (by decide) ?_; exact ih)
def gvb (S : Sx) (np : Nat) (b c : Int32) : Int32 := sm (fun p => if b >>> (ix p &&& 31) &&& 1 = 1 then (if c < sa S (100 + p) 1 then c else sa S (100 + p) 1) else 0) np
theorem r_X11_givenBy {g : Gp} {S : Sx} {b c : Int32} {ns nr np : Nat} {ow : Nat → Nat} (hH : MH S ns nr np ow) : RT g mX11_givenBy 1 [.ref 59, .int b, .int c] S (some (.int (gvb S np b c))) S := by
  refine RT_ofQ ⟨rfl, rfl⟩ (Nat.le_of_ble_eq_true rfl) (fun sz Q hQ => ?_)
  have hH' := hH
  obtain ⟨e0, e1, e2, l0, l1, l2, ho⟩ := hH'
  refine J_iconst (pc := 0) (v := 0) dX11_givenBy_0 (by decide) ?_
  refine J_istore_n (pc := 1) dX11_givenBy_1 (by decide) rfl ?_
  refine J_iconst (pc := 2) (v := 0) dX11_givenBy_2 (by decide) ?_
  refine J_istore (pc := 3) dX11_givenBy_3 (by decide) rfl ?_
  show J g mX11_givenBy 1 [] 5 [some (.ref 59), some (.int b), some (.int c), some (.int 0), some (.int 0)] [] (hs S) sz 0 0 Q
  refine dn_ind (n := np) (P := fun i => J g mX11_givenBy 1 [] 5 [some (.ref 59), some (.int b), some (.int c), some (.int (sm (fun p => if b >>> (ix p &&& 31) &&& 1 = 1 then (if c < sa S (100 + p) 1 then c else sa S (100 + p) 1) else 0) i)), some (.int (ix i))] [] (hs S) sz 0 0 Q) ?_ (fun i hi ih => ?_) 0 (Nat.zero_le _)
  · refine J_iload (pc := 5) dX11_givenBy_5 rfl ?_
    refine J_aload_n (pc := 7) dX11_givenBy_7 rfl ?_
    refine J_getr (pc := 8) dX11_givenBy_8 kc11 fl_X11_23 rfl ?_
    refine J_iconst (pc := 11) (v := 2) dX11_givenBy_11 (by decide) ?_
    refine J_il (pc := 12) dX11_givenBy_12 (by first | rfl | assumption) (rfl : (2 : Int32) = nI 2) ⟨by first | decide | omega, by decide⟩ ?_
    refine J_icmp_ge (pc := 13) (tgt := 51) dX11_givenBy_13 (by decide) (fun c13 => ?_) (fun c13 => absurd (ix_ge e2) c13)
    refine J_iload_n (pc := 51) dX11_givenBy_51 rfl ?_
    exact J_iret (pc := 52) rfl rfl rfl dX11_givenBy_52 (rq hQ (by first | rfl | simp [bI, *] | simp_all [bI]) rfl)
  · refine J_iload (pc := 5) dX11_givenBy_5 rfl ?_
    refine J_aload_n (pc := 7) dX11_givenBy_7 rfl ?_
    refine J_getr (pc := 8) dX11_givenBy_8 kc11 fl_X11_23 rfl ?_
    refine J_iconst (pc := 11) (v := 2) dX11_givenBy_11 (by decide) ?_
    refine J_il (pc := 12) dX11_givenBy_12 (by first | rfl | assumption) (rfl : (2 : Int32) = nI 2) ⟨by first | decide | omega, by decide⟩ ?_
    refine J_icmp_ge (pc := 13) (tgt := 51) dX11_givenBy_13 (by decide) (fun c13 => absurd c13 (ix_lt e2 hi (by omega))) (fun c13 => ?_)
    refine J_iload_n (pc := 16) dX11_givenBy_16 rfl ?_
    refine J_iload_n (pc := 17) dX11_givenBy_17 rfl ?_
    refine J_iload (pc := 18) dX11_givenBy_18 rfl ?_
    refine J_csr (pc := 20) (N := mX11_has) dX11_givenBy_20 ml_X11_263 cf_X11_has cs_X11_has r_X11_has rfl rfl (Nat.le_of_ble_eq_true rfl) (by decide) ?_
    refine J_ifp_eq (pc := 23) (tgt := 42) dX11_givenBy_23 (by decide) (fun c23 => ?_) (fun c23 => ?_)
    · refine J_iconst (pc := 42) (v := 0) dX11_givenBy_42 (by decide) ?_
      refine J_iadd (pc := 43) dX11_givenBy_43 ?_
      refine J_t1 (y := sm (fun p => if b >>> (ix p &&& 31) &&& 1 = 1 then (if c < sa S (100 + p) 1 then c else sa S (100 + p) 1) else 0) (i + 1)) (by show _ = sm (fun p => if b >>> (ix p &&& 31) &&& 1 = 1 then (if c < sa S (100 + p) 1 then c else sa S (100 + p) 1) else 0) i + _; first | exact congrArg _ (if_neg c23).symm | exact congrArg _ (if_pos c23).symm) ?_
      refine J_istore_n (pc := 44) dX11_givenBy_44 (by decide) rfl ?_
      refine J_iinc (pc := 45) (v := 1) dX11_givenBy_45 rfl (by decide) rfl ?_
      refine J_goto (pc := 48) (tgt := 5) dX11_givenBy_48 (by decide) ?_
      exact ih
    · refine J_iload_n (pc := 26) dX11_givenBy_26 rfl ?_
      refine J_aload_n (pc := 27) dX11_givenBy_27 rfl ?_
      refine J_getr (pc := 28) dX11_givenBy_28 kc11 fl_X11_49 rfl ?_
      refine J_iload (pc := 31) dX11_givenBy_31 rfl ?_
      refine J_ar1 (pc := 33) dX11_givenBy_33 rfl (by first | with_reducible rfl | assumption | exact ix_nI _ | rfl) ⟨by first | decide | omega, by decide⟩ ?_
      refine J_iconst (pc := 34) (v := 1) dX11_givenBy_34 (by decide) ?_
      refine J_il (pc := 35) dX11_givenBy_35 (lay_pilgrim (by omega)) (rfl : (1 : Int32) = nI 1) ⟨by first | decide | omega, by decide⟩ ?_
      refine J_csr (pc := 36) (N := mX11_less) dX11_givenBy_36 ml_X11_245 cf_X11_less cs_X11_less r_X11_less rfl rfl (Nat.le_of_ble_eq_true rfl) (by decide) ?_
      refine J_goto (pc := 39) (tgt := 43) dX11_givenBy_39 (by decide) ?_
      refine J_iadd (pc := 43) dX11_givenBy_43 ?_
      refine J_t1 (y := sm (fun p => if b >>> (ix p &&& 31) &&& 1 = 1 then (if c < sa S (100 + p) 1 then c else sa S (100 + p) 1) else 0) (i + 1)) (by show _ = sm (fun p => if b >>> (ix p &&& 31) &&& 1 = 1 then (if c < sa S (100 + p) 1 then c else sa S (100 + p) 1) else 0) i + _; first | exact congrArg _ (if_neg c23).symm | exact congrArg _ (if_pos c23).symm) ?_
      refine J_istore_n (pc := 44) dX11_givenBy_44 (by decide) rfl ?_
      refine J_iinc (pc := 45) (v := 1) dX11_givenBy_45 rfl (by decide) rfl ?_
      refine J_goto (pc := 48) (tgt := 5) dX11_givenBy_48 (by decide) ?_
      exact ih
/-- the greatest bound up to 99 that may be given out -/
def almB (f : Nat → Int32) (n : Int32) : Nat → Nat
  | 0 => 0
  | k + 1 => if almB f n k = k ∧ f (k + 1) ≤ n then k + 1 else almB f n k
theorem almB_st {f : Nat → Int32} {n : Int32} {k : Nat} (h : ∀ j, j < k → f (j + 1) ≤ n) : almB f n k = k := by
  induction k with
  | zero => rfl
  | succ k ih =>
    show (if almB f n k = k ∧ f (k + 1) ≤ n then k + 1 else almB f n k) = k + 1
    rw [if_pos ⟨ih (fun j hj => h j (by omega)), h k (by omega)⟩]
theorem almB_le (f : Nat → Int32) (n : Int32) : ∀ k, almB f n k ≤ k
  | 0 => Nat.le_refl _
  | k + 1 => by
    show (if almB f n k = k ∧ f (k + 1) ≤ n then k + 1 else almB f n k) ≤ k + 1
    have := almB_le f n k
    split <;> omega
theorem almB_end {f : Nat → Int32} {n : Int32} {k : Nat} (h : ∀ j, j < k → f (j + 1) ≤ n) (hk : ¬ f (k + 1) ≤ n) : ∀ N, k ≤ N → almB f n N = k
  | 0, hN => by rw [show k = 0 by omega]; rfl
  | N + 1, hN => by
    by_cases e : k = N + 1
    · subst e; exact almB_st h
    · show (if almB f n N = N ∧ f (N + 1) ≤ n then N + 1 else almB f n N) = k
      have := almB_end h hk N (by omega)
      rw [this, if_neg]
      intro q
      rw [← q.1] at q
      exact hk q.2
theorem r_X11_alms_e1 {g : Gp} {S : Sx} {x y z : Int32} {ns nr np : Nat} {ow : Nat → Nat} (hH : MH S ns nr np ow) (hv : ¬ (0 ≤ x ∧ x ≤ nI np - 1)) : RT g mX11_alms 2 [.ref 59, .int x, .int y, .int z] S (some (.int 0)) (er S 1 0) := by
  refine RT_ofQ ⟨rfl, rfl⟩ (Nat.le_of_ble_eq_true rfl) (fun sz Q hQ => ?_)
  have hH' := hH
  obtain ⟨e0, e1, e2, l0, l1, l2, ho⟩ := hH'
  refine J_aload_n (pc := 0) dX11_alms_0 rfl ?_
  refine J_iconst (pc := 1) (v := 0) dX11_alms_1 (by decide) ?_
  refine J_puti (pc := 2) dX11_alms_2 kc11 fl_X11_103 rfl ⟨rfl, rfl⟩ ?_
  refine J_aload_n (pc := 5) dX11_alms_5 rfl ?_
  refine J_aload_n (pc := 6) dX11_alms_6 rfl ?_
  refine J_iload_n (pc := 7) dX11_alms_7 rfl ?_
  refine J_cvr (pc := 8) (N := mX11_isPerson) dX11_alms_8 ml_X11_342 cf_X11_isPerson cv_X11_isPerson (r_X11_isPerson (S := S0 S) hH) rfl rfl (Nat.le_of_ble_eq_true rfl) (by decide) (rv_of (ci := 11) rfl rfl rfl) ?_
  refine J_ifp_ne (pc := 11) (tgt := 18) dX11_alms_11 (by decide) (fun c11 => absurd c11 hv) (fun c11 => ?_)
  refine J_iconst (pc := 14) (v := 1) dX11_alms_14 (by decide) ?_
  refine J_goto (pc := 15) (tgt := 19) dX11_alms_15 (by decide) ?_
  refine J_iconst (pc := 19) (v := 1) dX11_alms_19 (by decide) ?_
  refine J_iconst (pc := 20) (v := 0) dX11_alms_20 (by decide) ?_
  refine J_cvr (pc := 21) (N := mX11_bad) dX11_alms_21 ml_X11_183 cf_X11_bad cv_X11_bad (r_X11_bad_t (k := 0) rfl (by decide) (by decide) rfl) rfl rfl (Nat.le_of_ble_eq_true rfl) (by decide) (rv_of (ci := 11) rfl rfl rfl) ?_
  refine J_if_ne (pc := 24) (tgt := 70) dX11_alms_24 (by decide) (fun c24 => ?_) (fun c24 => absurd c24 (by decide))
  refine J_iconst (pc := 70) (v := 0) dX11_alms_70 (by decide) ?_
  exact J_iret (pc := 71) rfl rfl rfl dX11_alms_71 (rq hQ (by first | rfl | simp [bI, *] | simp_all [bI]) rfl)
theorem r_X11_alms_e2 {g : Gp} {S : Sx} {x y z : Int32} {ns nr np : Nat} {ow : Nat → Nat} (hH : MH S ns nr np ow) (hv : 0 ≤ x ∧ x ≤ nI np - 1) (hv2 : ¬ ((0 ≤ y ∧ y ≤ 1 <<< (nI np &&& 31) - 1) ∧ (0 ≤ z ∧ z ≤ 999))) : RT g mX11_alms 2 [.ref 59, .int x, .int y, .int z] S (some (.int 0)) (er S 2 1) := by
  refine RT_ofQ ⟨rfl, rfl⟩ (Nat.le_of_ble_eq_true rfl) (fun sz Q hQ => ?_)
  have hH' := hH
  obtain ⟨e0, e1, e2, l0, l1, l2, ho⟩ := hH'
  refine J_aload_n (pc := 0) dX11_alms_0 rfl ?_
  refine J_iconst (pc := 1) (v := 0) dX11_alms_1 (by decide) ?_
  refine J_puti (pc := 2) dX11_alms_2 kc11 fl_X11_103 rfl ⟨rfl, rfl⟩ ?_
  refine J_aload_n (pc := 5) dX11_alms_5 rfl ?_
  refine J_aload_n (pc := 6) dX11_alms_6 rfl ?_
  refine J_iload_n (pc := 7) dX11_alms_7 rfl ?_
  refine J_cvr (pc := 8) (N := mX11_isPerson) dX11_alms_8 ml_X11_342 cf_X11_isPerson cv_X11_isPerson (r_X11_isPerson (S := S0 S) hH) rfl rfl (Nat.le_of_ble_eq_true rfl) (by decide) (rv_of (ci := 11) rfl rfl rfl) ?_
  refine J_ifp_ne (pc := 11) (tgt := 18) dX11_alms_11 (by decide) (fun c11 => ?_) (fun c11 => absurd hv c11)
  refine J_iconst (pc := 18) (v := 0) dX11_alms_18 (by decide) ?_
  refine J_iconst (pc := 19) (v := 1) dX11_alms_19 (by decide) ?_
  refine J_iconst (pc := 20) (v := 0) dX11_alms_20 (by decide) ?_
  refine J_cvr (pc := 21) (N := mX11_bad) dX11_alms_21 ml_X11_183 cf_X11_bad cv_X11_bad (r_X11_bad_f rfl) rfl rfl (Nat.le_of_ble_eq_true rfl) (by decide) (rv_of (ci := 11) rfl rfl rfl) ?_
  refine J_if_ne (pc := 24) (tgt := 70) dX11_alms_24 (by decide) (fun c24 => absurd rfl c24) (fun c24 => ?_)
  refine J_aload_n (pc := 27) dX11_alms_27 rfl ?_
  refine J_iload_n (pc := 28) dX11_alms_28 rfl ?_
  refine J_iconst (pc := 29) (v := 0) dX11_alms_29 (by decide) ?_
  refine J_iconst (pc := 30) (v := 1) dX11_alms_30 (by decide) ?_
  refine J_aload_n (pc := 31) dX11_alms_31 rfl ?_
  refine J_getr (pc := 32) dX11_alms_32 kc11 fl_X11_23 rfl ?_
  refine J_iconst (pc := 35) (v := 2) dX11_alms_35 (by decide) ?_
  refine J_il (pc := 36) dX11_alms_36 (by first | rfl | assumption) (rfl : (2 : Int32) = nI 2) ⟨by first | decide | omega, by decide⟩ ?_
  refine J_t1 e2 ?_
  refine J_ishl (pc := 37) dX11_alms_37 ?_
  refine J_iconst (pc := 38) (v := 1) dX11_alms_38 (by decide) ?_
  refine J_isub (pc := 39) dX11_alms_39 ?_
  refine J_csr (pc := 40) (N := mX11_in) dX11_alms_40 ml_X11_137 cf_X11_in cs_X11_in r_X11_in rfl rfl (Nat.le_of_ble_eq_true rfl) (by decide) ?_
  refine J_ifp_eq (pc := 43) (tgt := 57) dX11_alms_43 (by decide) (fun c43 => ?_) (fun c43 => ?_)
  · refine J_iconst (pc := 57) (v := 1) dX11_alms_57 (by decide) ?_
    refine J_goto (pc := 58) (tgt := 62) dX11_alms_58 (by decide) ?_
    refine J_iconst (pc := 62) (v := 2) dX11_alms_62 (by decide) ?_
    refine J_iconst (pc := 63) (v := 1) dX11_alms_63 (by decide) ?_
    refine J_cvr (pc := 64) (N := mX11_bad) dX11_alms_64 ml_X11_183 cf_X11_bad cv_X11_bad (r_X11_bad_t (k := 1) rfl (by decide) (by decide) rfl) rfl rfl (Nat.le_of_ble_eq_true rfl) (by decide) (rv_of (ci := 11) rfl rfl rfl) ?_
    refine J_if_eq (pc := 67) (tgt := 72) dX11_alms_67 (by decide) (fun c67 => absurd c67 (by decide)) (fun c67 => ?_)
    refine J_iconst (pc := 70) (v := 0) dX11_alms_70 (by decide) ?_
    exact J_iret (pc := 71) rfl rfl rfl dX11_alms_71 (rq hQ (by first | rfl | simp [bI, *] | simp_all [bI]) rfl)
  · refine J_iload_n (pc := 46) dX11_alms_46 rfl ?_
    refine J_iconst (pc := 47) (v := 0) dX11_alms_47 (by decide) ?_
    refine J_sipush (pc := 48) (v := 999) dX11_alms_48 (by decide) ?_
    refine J_csr (pc := 51) (N := mX11_in) dX11_alms_51 ml_X11_137 cf_X11_in cs_X11_in r_X11_in rfl rfl (Nat.le_of_ble_eq_true rfl) (by decide) ?_
    refine J_ifp_ne (pc := 54) (tgt := 61) dX11_alms_54 (by decide) (fun c54 => absurd (And.intro c43 c54) hv2) (fun c54 => ?_)
    refine J_iconst (pc := 57) (v := 1) dX11_alms_57 (by decide) ?_
    refine J_goto (pc := 58) (tgt := 62) dX11_alms_58 (by decide) ?_
    refine J_iconst (pc := 62) (v := 2) dX11_alms_62 (by decide) ?_
    refine J_iconst (pc := 63) (v := 1) dX11_alms_63 (by decide) ?_
    refine J_cvr (pc := 64) (N := mX11_bad) dX11_alms_64 ml_X11_183 cf_X11_bad cv_X11_bad (r_X11_bad_t (k := 1) rfl (by decide) (by decide) rfl) rfl rfl (Nat.le_of_ble_eq_true rfl) (by decide) (rv_of (ci := 11) rfl rfl rfl) ?_
    refine J_if_eq (pc := 67) (tgt := 72) dX11_alms_67 (by decide) (fun c67 => absurd c67 (by decide)) (fun c67 => ?_)
    refine J_iconst (pc := 70) (v := 0) dX11_alms_70 (by decide) ?_
    exact J_iret (pc := 71) rfl rfl rfl dX11_alms_71 (rq hQ (by first | rfl | simp [bI, *] | simp_all [bI]) rfl)
theorem r_X11_alms {g : Gp} {S : Sx} {p : Nat} {y z : Int32} {ns nr np : Nat} {ow : Nat → Nat} (hH : MH S ns nr np ow) (hp : p < np) (hv2 : (0 ≤ y ∧ y ≤ 1 <<< (nI np &&& 31) - 1) ∧ (0 ≤ z ∧ z ≤ 999)) : RT g mX11_alms 2 [.ref 59, .int (nI p), .int y, .int z] S (some (.int (if y >>> (nI p &&& 31) &&& 1 = 1 then (if nI (almB (fun k => gvb S np y (nI k)) z 99) < sa S (100 + p) 1 then nI (almB (fun k => gvb S np y (nI k)) z 99) else sa S (100 + p) 1) else 0))) (S0 S) := by
  refine RT_ofQ ⟨rfl, rfl⟩ (Nat.le_of_ble_eq_true rfl) (fun sz Q hQ => ?_)
  have hH' := hH
  obtain ⟨e0, e1, e2, l0, l1, l2, ho⟩ := hH'
  refine J_aload_n (pc := 0) dX11_alms_0 rfl ?_
  refine J_iconst (pc := 1) (v := 0) dX11_alms_1 (by decide) ?_
  refine J_puti (pc := 2) dX11_alms_2 kc11 fl_X11_103 rfl ⟨rfl, rfl⟩ ?_
  refine J_aload_n (pc := 5) dX11_alms_5 rfl ?_
  refine J_aload_n (pc := 6) dX11_alms_6 rfl ?_
  refine J_iload_n (pc := 7) dX11_alms_7 rfl ?_
  refine J_cvr (pc := 8) (N := mX11_isPerson) dX11_alms_8 ml_X11_342 cf_X11_isPerson cv_X11_isPerson (r_X11_isPerson (S := S0 S) hH) rfl rfl (Nat.le_of_ble_eq_true rfl) (by decide) (rv_of (ci := 11) rfl rfl rfl) ?_
  refine J_ifp_ne (pc := 11) (tgt := 18) dX11_alms_11 (by decide) (fun c11 => ?_) (fun c11 => absurd (inx hp (by omega)) c11)
  refine J_iconst (pc := 18) (v := 0) dX11_alms_18 (by decide) ?_
  refine J_iconst (pc := 19) (v := 1) dX11_alms_19 (by decide) ?_
  refine J_iconst (pc := 20) (v := 0) dX11_alms_20 (by decide) ?_
  refine J_cvr (pc := 21) (N := mX11_bad) dX11_alms_21 ml_X11_183 cf_X11_bad cv_X11_bad (r_X11_bad_f rfl) rfl rfl (Nat.le_of_ble_eq_true rfl) (by decide) (rv_of (ci := 11) rfl rfl rfl) ?_
  refine J_if_ne (pc := 24) (tgt := 70) dX11_alms_24 (by decide) (fun c24 => absurd rfl c24) (fun c24 => ?_)
  refine J_aload_n (pc := 27) dX11_alms_27 rfl ?_
  refine J_iload_n (pc := 28) dX11_alms_28 rfl ?_
  refine J_iconst (pc := 29) (v := 0) dX11_alms_29 (by decide) ?_
  refine J_iconst (pc := 30) (v := 1) dX11_alms_30 (by decide) ?_
  refine J_aload_n (pc := 31) dX11_alms_31 rfl ?_
  refine J_getr (pc := 32) dX11_alms_32 kc11 fl_X11_23 rfl ?_
  refine J_iconst (pc := 35) (v := 2) dX11_alms_35 (by decide) ?_
  refine J_il (pc := 36) dX11_alms_36 (by first | rfl | assumption) (rfl : (2 : Int32) = nI 2) ⟨by first | decide | omega, by decide⟩ ?_
  refine J_t1 e2 ?_
  refine J_ishl (pc := 37) dX11_alms_37 ?_
  refine J_iconst (pc := 38) (v := 1) dX11_alms_38 (by decide) ?_
  refine J_isub (pc := 39) dX11_alms_39 ?_
  refine J_csr (pc := 40) (N := mX11_in) dX11_alms_40 ml_X11_137 cf_X11_in cs_X11_in r_X11_in rfl rfl (Nat.le_of_ble_eq_true rfl) (by decide) ?_
  refine J_ifp_eq (pc := 43) (tgt := 57) dX11_alms_43 (by decide) (fun c43 => absurd hv2.1 c43) (fun c43 => ?_)
  refine J_iload_n (pc := 46) dX11_alms_46 rfl ?_
  refine J_iconst (pc := 47) (v := 0) dX11_alms_47 (by decide) ?_
  refine J_sipush (pc := 48) (v := 999) dX11_alms_48 (by decide) ?_
  refine J_csr (pc := 51) (N := mX11_in) dX11_alms_51 ml_X11_137 cf_X11_in cs_X11_in r_X11_in rfl rfl (Nat.le_of_ble_eq_true rfl) (by decide) ?_
  refine J_ifp_ne (pc := 54) (tgt := 61) dX11_alms_54 (by decide) (fun c54 => ?_) (fun c54 => absurd hv2.2 c54)
  refine J_iconst (pc := 61) (v := 0) dX11_alms_61 (by decide) ?_
  refine J_iconst (pc := 62) (v := 2) dX11_alms_62 (by decide) ?_
  refine J_iconst (pc := 63) (v := 1) dX11_alms_63 (by decide) ?_
  refine J_cvr (pc := 64) (N := mX11_bad) dX11_alms_64 ml_X11_183 cf_X11_bad cv_X11_bad (r_X11_bad_f rfl) rfl rfl (Nat.le_of_ble_eq_true rfl) (by decide) (rv_of (ci := 11) rfl rfl rfl) ?_
  refine J_if_eq (pc := 67) (tgt := 72) dX11_alms_67 (by decide) (fun c67 => ?_) (fun c67 => absurd rfl c67)
  refine J_iconst (pc := 72) (v := 0) dX11_alms_72 (by decide) ?_
  refine J_istore (pc := 73) dX11_alms_73 (by decide) rfl ?_
  show J g mX11_alms 2 [] 75 [some (.ref 59), some (.int (nI p)), some (.int y), some (.int z), some (.int 0)] [] (hs (S0 S)) sz 0 0 Q
  have fin : ∀ k, almB (fun k => gvb S np y (nI k)) z 99 = k → J g mX11_alms 2 [] 101 [some (.ref 59), some (.int (nI p)), some (.int y), some (.int z), some (.int (ix k))] [] (hs (S0 S)) sz 0 0 Q := by
    intro k hk
    rw [hk] at hQ
    rw [ix_nI]
    refine J_iload_n (pc := 101) dX11_alms_101 rfl ?_
    refine J_iload_n (pc := 102) dX11_alms_102 rfl ?_
    refine J_csr (pc := 103) (N := mX11_has) dX11_alms_103 ml_X11_263 cf_X11_has cs_X11_has r_X11_has rfl rfl (Nat.le_of_ble_eq_true rfl) (by decide) ?_
    refine J_ifp_eq (pc := 106) (tgt := 125) dX11_alms_106 (by decide) (fun c106 => ?_) (fun c106 => ?_)
    · refine J_iconst (pc := 125) (v := 0) dX11_alms_125 (by decide) ?_
      exact J_iret (pc := 126) rfl rfl rfl dX11_alms_126 (rq hQ (by first | exact (if_pos c106).symm | exact (if_neg c106).symm) rfl)
    · refine J_iload (pc := 109) dX11_alms_109 rfl ?_
      refine J_aload_n (pc := 111) dX11_alms_111 rfl ?_
      refine J_getr (pc := 112) dX11_alms_112 kc11 fl_X11_49 rfl ?_
      refine J_iload_n (pc := 115) dX11_alms_115 rfl ?_
      refine J_ar1 (pc := 116) dX11_alms_116 rfl (by first | with_reducible rfl | assumption | exact ix_nI _ | rfl) ⟨by first | decide | omega, by decide⟩ ?_
      refine J_iconst (pc := 117) (v := 1) dX11_alms_117 (by decide) ?_
      refine J_il (pc := 118) dX11_alms_118 (lay_pilgrim (by omega)) (rfl : (1 : Int32) = nI 1) ⟨by first | decide | omega, by decide⟩ ?_
      refine J_csr (pc := 119) (N := mX11_less) dX11_alms_119 ml_X11_245 cf_X11_less cs_X11_less r_X11_less rfl rfl (Nat.le_of_ble_eq_true rfl) (by decide) ?_
      refine J_goto (pc := 122) (tgt := 126) dX11_alms_122 (by decide) ?_
      exact J_iret (pc := 126) rfl rfl rfl dX11_alms_126 (rq hQ (by first | exact (if_pos c106).symm | exact (if_neg c106).symm) rfl)
  refine dn_ind (n := 99) (P := fun k => (∀ j, j < k → (fun k => gvb S np y (nI k)) (j + 1) ≤ z) → J g mX11_alms 2 [] 75 [some (.ref 59), some (.int (nI p)), some (.int y), some (.int z), some (.int (ix k))] [] (hs (S0 S)) sz 0 0 Q) ?_ (fun k hi ih => ?_) 0 (Nat.zero_le _) (fun j hj => absurd hj (by omega))
  · intro hall
    refine J_iload (pc := 75) dX11_alms_75 rfl ?_
    refine J_bipush (pc := 77) (v := 99) dX11_alms_77 (by decide) ?_
    refine J_icmp_ge (pc := 79) (tgt := 101) dX11_alms_79 (by decide) (fun c79 => ?_) (fun c79 => absurd (ix_ge (n := 99) rfl) c79)
    exact fin 99 (almB_st hall)
  · intro hall
    refine J_iload (pc := 75) dX11_alms_75 rfl ?_
    refine J_bipush (pc := 77) (v := 99) dX11_alms_77 (by decide) ?_
    refine J_icmp_ge (pc := 79) (tgt := 101) dX11_alms_79 (by decide) (fun c79 => absurd c79 (ix_lt (n := 99) rfl hi (by decide))) (fun c79 => ?_)
    refine J_aload_n (pc := 82) dX11_alms_82 rfl ?_
    refine J_iload_n (pc := 83) dX11_alms_83 rfl ?_
    refine J_iload (pc := 84) dX11_alms_84 rfl ?_
    refine J_iconst (pc := 86) (v := 1) dX11_alms_86 (by decide) ?_
    refine J_iadd (pc := 87) dX11_alms_87 ?_
    refine J_t1 (y := nI (k + 1)) (by rw [ix_nI, nI_1]) ?_
    refine J_cvr (pc := 88) (N := mX11_givenBy) dX11_alms_88 ml_X11_385 cf_X11_givenBy cv_X11_givenBy (r_X11_givenBy (S := S0 S) hH) rfl rfl (Nat.le_of_ble_eq_true rfl) (by decide) (rv_of (ci := 11) rfl rfl rfl) ?_
    refine J_iload_n (pc := 91) dX11_alms_91 rfl ?_
    refine J_icmp_gt (pc := 92) (tgt := 101) dX11_alms_92 (by decide) (fun c92 => ?_) (fun c92 => ?_)
    · exact fin k (almB_end hall (Int32.not_le.mpr c92) 99 (by omega))
    · refine J_iinc (pc := 95) (v := 1) dX11_alms_95 rfl (by decide) rfl ?_
      refine J_goto (pc := 98) (tgt := 75) dX11_alms_98 (by decide) ?_
      exact ih (fun j hj => by
        by_cases q : j = k
        · subst q; exact Int32.not_lt.mp c92
        · exact hall j (by omega))
