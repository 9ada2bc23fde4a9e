/-! ===== the tape: a text is read ===== -/
abbrev UT : Type := Nat × Nat × Nat × Nat
def b8 (c : Nat) : Int32 := (nI c).toInt8.toInt32
set_option maxRecDepth 100000 in
theorem b8_and : ∀ c, c < 256 → b8 c &&& 255 = nI c := by decide +kernel
set_option maxRecDepth 100000 in
theorem b8_32 : ∀ c, c < 256 → (b8 c = 32 ↔ c = 32) := by decide +kernel
set_option maxRecDepth 100000 in
theorem c16 : ∀ c, c < 256 → ((nI c).toUInt32 % 65536).toInt32 = nI c := by decide +kernel
def ct (S : Sx) (u : UT) : Sx := (fun x y => if x = 1 then (if y = 3 then nI u.1 else if y = 4 then nI u.2.1 else if y = 5 then nI u.2.2.1 else if y = 6 then (if u.2.2.1 = 0 then -1 else nI u.2.2.2) else sf S x y) else sf S x y, sp S, sa S, sl S, sx S)
theorem ct_at (S : Sx) (u : UT) (a : Nat) : sF (ct S u) 1 3 (nI a) = ct S (a, u.2) := by
  have : up2 (sf (ct S u)) 1 3 (nI a) = sf (ct S (a, u.2)) := by
    funext x y
    show (if x = 1 then (if y = 3 then nI a else sf (ct S u) x y) else sf (ct S u) x y) = _
    by_cases hx : x = 1
    · subst hx
      by_cases hy : y = 3
      · subst hy; rfl
      · simp [ct, sf, hy]
    · simp [ct, sf, hx]
  show (up2 (sf (ct S u)) 1 3 (nI a), _, _, _, _) = _
  rw [this]
  rfl
theorem ct_tk (S : Sx) (u : UT) (a : Nat) : sF (ct S u) 1 4 (nI a) = ct S (u.1, a, u.2.2) := by
  have : up2 (sf (ct S u)) 1 4 (nI a) = sf (ct S (u.1, a, u.2.2)) := by
    funext x y
    show (if x = 1 then (if y = 4 then nI a else sf (ct S u) x y) else sf (ct S u) x y) = _
    by_cases hx : x = 1
    · subst hx
      by_cases hy : y = 4
      · subst hy; rfl
      · simp [ct, sf, hy]
    · simp [ct, sf, hx]
  show (up2 (sf (ct S u)) 1 4 (nI a), _, _, _, _) = _
  rw [this]
  rfl
theorem ct_wr (S : Sx) (u : UT) {k : Nat} (hk : k ≠ 0) (h : Nat) : sF (sF (ct S u) 1 5 (nI k)) 1 6 (nI h) = ct S (u.1, u.2.1, k, h) := by
  have : up2 (up2 (sf (ct S u)) 1 5 (nI k)) 1 6 (nI h) = sf (ct S (u.1, u.2.1, k, h)) := by
    funext x y
    show (if x = 1 then (if y = 6 then nI h else (if x = 1 then (if y = 5 then nI k else sf (ct S u) x y) else sf (ct S u) x y)) else (if x = 1 then (if y = 5 then nI k else sf (ct S u) x y) else sf (ct S u) x y)) = _
    by_cases hx : x = 1
    · subst hx
      by_cases hy : y = 6
      · subst hy; simp [ct, sf, hk]
      · by_cases hy : y = 5
        · subst hy; simp [ct, sf]
        · simp [ct, sf, *]
    · simp [ct, sf, hx]
  show (up2 (up2 (sf (ct S u)) 1 5 (nI k)) 1 6 (nI h), _, _, _, _) = _
  rw [this]
  rfl
theorem ct_o {S : Sx} {u : UT} {x y : Nat} (h : x ≠ 1) : sf (ct S u) x y = sf S x y := if_neg h
/-- the text: n bytes, cc k the k-th, 999 behind the end -/
def CTX (S : Sx) (n : Nat) (cc : Nat → Nat) : Prop := sf S 1 2 = nI n ∧ n ≤ 600 ∧ (∀ k, k < n → sa S 2 k = b8 (cc k) ∧ cc k < 256) ∧ ∀ k, n ≤ k → cc k = 999
theorem CTX_le {S : Sx} {n : Nat} {cc : Nat → Nat} (h : CTX S n cc) (k : Nat) : cc k = 999 ∨ cc k < 256 := by
  by_cases q : k < n
  · exact Or.inr (h.2.2.1 k q).2
  · exact Or.inl (h.2.2.2 k (by omega))
theorem CTX_lt {S : Sx} {n : Nat} {cc : Nat → Nat} (h : CTX S n cc) {k c : Nat} (e : cc k = c) (hc : c < 256) : k < n := by
  by_cases q : k < n
  · exact q
  · have := h.2.2.2 k (by omega); omega
def um (k p : Nat) (u : UT) : UT := if u.2.2.1 = 0 then (u.1, u.2.1, k, p) else u
def unx (cc : Nat → Nat) (n : Nat) (u : UT) : UT := (pbl cc n u.1, pbl cc n u.1, u.2.2)
def UO (n : Nat) (u : UT) : Prop := u.1 ≤ n ∧ u.2.1 ≤ u.1 ∧ u.2.2.1 ≤ 3 ∧ u.2.2.2 ≤ n
theorem UO_um {n k p : Nat} {u : UT} (h : UO n u) (hk : k ≤ 3) (hp : p ≤ n) : UO n (um k p u) := by
  unfold um
  split
  · exact ⟨h.1, h.2.1, hk, hp⟩
  · exact h
theorem UO_nx {n : Nat} {cc : Nat → Nat} {u : UT} (h : UO n u) : UO n (unx cc n u) := ⟨pbl_le cc h.1, Nat.le_refl _, h.2.2⟩
theorem pbl_s {cc : Nat → Nat} {n a : Nat} (h : a < n) (e : cc a = 32) : pbl cc n a = pbl cc n (a + 1) := by
  unfold pbl
  rw [show n - a = (n - (a + 1)) + 1 by omega]
  exact skp_t (P := fun k => cc k == 32) (by simp [e])
theorem pwe_s {cc : Nat → Nat} {n a : Nat} (h : a < n) (e : isS (cc a) = true) : pwe cc n a = pwe cc n (a + 1) := by
  unfold pwe
  rw [show n - a = (n - (a + 1)) + 1 by omega]
  exact skp_t (P := fun k => isS (cc k)) e
theorem pwe_id {cc : Nat → Nat} {n a : Nat} (h : ¬ isS (cc a) = true) : pwe cc n a = a := skp_f h
theorem r_X8_byteAt {g : Gp} {S : Sx} {n : Nat} {cc : Nat → Nat} (hx : CTX S n cc) {k : Nat} (hk : k < 2 ^ 31) {u : UT} : RT g mX8_byteAt 0 [.ref 1, .int (nI k)] (ct S u) (some (.int (bv (cc k)))) (ct S u) := by
  refine RT_ofQ ⟨rfl, rfl⟩ (Nat.le_of_ble_eq_true rfl) (fun sz Q hQ => ?_)
  have n6 := hx.2.1
  refine J_iload_n (pc := 0) dX8_byteAt_0 rfl ?_
  refine J_if_lt (pc := 1) (tgt := 34) dX8_byteAt_1 (by decide) (fun c1 => absurd c1 (nI_pos hk)) (fun c1 => ?_)
  refine J_iload_n (pc := 4) dX8_byteAt_4 rfl ?_
  refine J_aload_n (pc := 5) dX8_byteAt_5 rfl ?_
  refine J_geti (pc := 6) dX8_byteAt_6 kc8 fl_X8_22 rfl ?_
  refine J_t1 (y := nI n) hx.1 ?_
  refine J_icmp_ge (pc := 9) (tgt := 34) dX8_byteAt_9 (by decide) (fun c9 => ?_) (fun c9 => ?_)
  · refine J_iconst (pc := 34) (v := -1) dX8_byteAt_34 (by decide) ?_
    exact J_iret (pc := 35) rfl rfl rfl dX8_byteAt_35 (rq hQ (by unfold bv; first | rw [if_pos (hx.2.2.2 k ((nI_leI (by omega) hk).mp c9))] | rw [if_neg (by omega)]) rfl)
  · have kn : k < n := Nat.lt_of_not_le (fun q => c9 (nI_le q hk))
    obtain ⟨e1, e2⟩ := hx.2.2.1 k kn
    refine J_iload_n (pc := 12) dX8_byteAt_12 rfl ?_
    refine J_aload_n (pc := 13) dX8_byteAt_13 rfl ?_
    refine J_getr (pc := 14) dX8_byteAt_14 kc8 fl_X8_9 rfl ?_
    refine J_al (pc := 17) dX8_byteAt_17 (by first | rfl | assumption) (by decide) rfl ?_
    refine J_icmp_ge (pc := 18) (tgt := 34) dX8_byteAt_18 (by decide) (fun c18 => absurd c18 (nI_ge (b := 600) (by omega) (by decide))) (fun c18 => ?_)
    refine J_aload_n (pc := 21) dX8_byteAt_21 rfl ?_
    refine J_getr (pc := 22) dX8_byteAt_22 kc8 fl_X8_9 rfl ?_
    refine J_iload_n (pc := 25) dX8_byteAt_25 rfl ?_
    refine J_bl (pc := 26) dX8_byteAt_26 rfl rfl ⟨by omega, by decide⟩ ?_
    refine J_t1 e1 ?_
    refine J_sipush (pc := 27) (v := 255) dX8_byteAt_27 (by decide) ?_
    refine J_iand (pc := 30) dX8_byteAt_30 ?_
    refine J_t1 (b8_and _ e2) ?_
    refine J_goto (pc := 31) (tgt := 35) dX8_byteAt_31 (by decide) ?_
    exact J_iret (pc := 35) rfl rfl rfl dX8_byteAt_35 (rq hQ (by unfold bv; first | rw [if_pos (hx.2.2.2 k ((nI_leI (by omega) hk).mp c9))] | rw [if_neg (by omega)]) rfl)
theorem r_X8_mark {g : Gp} {S : Sx} {n k p : Nat} {u : UT} (hu : UO n u) (hk : k ≠ 0) : RT g mX8_mark 0 [.ref 1, .int (nI k), .int (nI p)] (ct S u) none (ct S (um k p u)) := by
  refine RT_ofQ ⟨rfl, rfl⟩ (Nat.le_of_ble_eq_true rfl) (fun sz Q hQ => ?_)
  refine J_aload_n (pc := 0) dX8_mark_0 rfl ?_
  refine J_geti (pc := 1) dX8_mark_1 kc8 fl_X8_31 rfl ?_
  refine J_t1 (y := nI u.2.2.1) rfl ?_
  refine J_if_ne (pc := 4) (tgt := 17) dX8_mark_4 (by decide) (fun c4 => ?_) (fun c4 => ?_)
  · have hz : ¬ u.2.2.1 = 0 := fun q => c4 (by rw [q]; rfl)
    exact J_ret (pc := 17) rfl rfl dX8_mark_17 (rqv hQ (by unfold um; first | (rw [if_neg hz]; done) | rw [if_pos hz, ct_wr S u hk]))
  · have hz : u.2.2.1 = 0 := (nI_z hu.2.2.1).mp c4
    refine J_aload_n (pc := 7) dX8_mark_7 rfl ?_
    refine J_iload_n (pc := 8) dX8_mark_8 rfl ?_
    refine J_puti (pc := 9) dX8_mark_9 kc8 fl_X8_31 rfl ⟨rfl, rfl⟩ ?_
    refine J_aload_n (pc := 12) dX8_mark_12 rfl ?_
    refine J_iload_n (pc := 13) dX8_mark_13 rfl ?_
    refine J_puti (pc := 14) dX8_mark_14 kc8 fl_X8_15 rfl ⟨rfl, rfl⟩ ?_
    exact J_ret (pc := 17) rfl rfl dX8_mark_17 (rqv hQ (by unfold um; first | (rw [if_neg hz]; done) | rw [if_pos hz, ct_wr S u hk]))
theorem r_X8_isSound {g : Gp} {S : Sx} {n : Nat} {u : UT} (hu : UO n u) : RT g mX8_isSound 0 [.ref 1] (ct S u) (some (.int (bI (decide (u.2.2.1 = 0))))) (ct S u) := by
  refine RT_ofQ ⟨rfl, rfl⟩ (Nat.le_of_ble_eq_true rfl) (fun sz Q hQ => ?_)
  refine J_aload_n (pc := 0) dX8_isSound_0 rfl ?_
  refine J_geti (pc := 1) dX8_isSound_1 kc8 fl_X8_31 rfl ?_
  refine J_t1 (y := nI u.2.2.1) rfl ?_
  refine J_if_ne (pc := 4) (tgt := 11) dX8_isSound_4 (by decide) (fun c4 => ?_) (fun c4 => ?_)
  · refine J_iconst (pc := 11) (v := 0) dX8_isSound_11 (by decide) ?_
    exact J_iret (pc := 12) rfl rfl rfl dX8_isSound_12 (rq hQ (by first | exact Eq.symm (bI_t ((nI_z hu.2.2.1).mp c4)) | exact Eq.symm (bI_f (fun q => c4 (by rw [q]; rfl)))) rfl)
  · refine J_iconst (pc := 7) (v := 1) dX8_isSound_7 (by decide) ?_
    refine J_goto (pc := 8) (tgt := 12) dX8_isSound_8 (by decide) ?_
    exact J_iret (pc := 12) rfl rfl rfl dX8_isSound_12 (rq hQ (by first | exact Eq.symm (bI_t ((nI_z hu.2.2.1).mp c4)) | exact Eq.symm (bI_f (fun q => c4 (by rw [q]; rfl)))) rfl)
theorem r_X8_next {g : Gp} {S : Sx} {n : Nat} {cc : Nat → Nat} (hx : CTX S n cc) {u : UT} (hu : UO n u) : RT g mX8_next 0 [.ref 1] (ct S u) (some (.int (bv (cc (pbl cc n u.1))))) (ct S (unx cc n u)) := by
  refine RT_ofQ ⟨rfl, rfl⟩ (Nat.le_of_ble_eq_true rfl) (fun sz Q hQ => ?_)
  have n6 := hx.2.1
  have fin : ∀ b, b ≤ n → pbl cc n u.1 = b → J g mX8_next 0 [] 50 [some (.ref 1)] [] (hs (ct S (b, u.2))) sz 0 0 Q := by
    intro b hb hbe
    unfold unx at hQ
    rw [hbe] at hQ
    refine J_aload_n (pc := 50) dX8_next_50 rfl ?_
    refine J_aload_n (pc := 51) dX8_next_51 rfl ?_
    refine J_geti (pc := 52) dX8_next_52 kc8 fl_X8_25 rfl ?_
    refine J_t1 (y := nI b) rfl ?_
    refine J_puti (pc := 55) dX8_next_55 kc8 fl_X8_28 rfl ⟨rfl, rfl⟩ ?_
    rw [ct_tk]
    refine J_aload_n (pc := 58) dX8_next_58 rfl ?_
    refine J_geti (pc := 59) dX8_next_59 kc8 fl_X8_25 rfl ?_
    refine J_t1 (y := nI b) rfl ?_
    refine J_aload_n (pc := 62) dX8_next_62 rfl ?_
    refine J_geti (pc := 63) dX8_next_63 kc8 fl_X8_22 rfl ?_
    refine J_t1 (y := nI n) hx.1 ?_
    refine J_icmp_ge (pc := 66) (tgt := 97) dX8_next_66 (by decide) (fun c66 => ?_) (fun c66 => ?_)
    · refine J_iconst (pc := 97) (v := -1) dX8_next_97 (by decide) ?_
      exact J_iret (pc := 98) rfl rfl rfl dX8_next_98 (rq hQ (by unfold bv; first | rw [if_pos (hx.2.2.2 b ((nI_leI (by omega) (by omega)).mp c66))] | rw [if_neg (by omega)]) rfl)
    · have kn : b < n := Nat.lt_of_not_le (fun q => c66 (nI_le q (by omega)))
      obtain ⟨e1, e2⟩ := hx.2.2.1 b kn
      refine J_aload_n (pc := 69) dX8_next_69 rfl ?_
      refine J_geti (pc := 70) dX8_next_70 kc8 fl_X8_25 rfl ?_
      refine J_t1 (y := nI b) rfl ?_
      refine J_aload_n (pc := 73) dX8_next_73 rfl ?_
      refine J_getr (pc := 74) dX8_next_74 kc8 fl_X8_9 rfl ?_
      refine J_al (pc := 77) dX8_next_77 (by first | rfl | assumption) (by decide) rfl ?_
      refine J_icmp_ge (pc := 78) (tgt := 97) dX8_next_78 (by decide) (fun c78 => absurd c78 (nI_ge (b := 600) (by omega) (by decide))) (fun c78 => ?_)
      refine J_aload_n (pc := 81) dX8_next_81 rfl ?_
      refine J_getr (pc := 82) dX8_next_82 kc8 fl_X8_9 rfl ?_
      refine J_aload_n (pc := 85) dX8_next_85 rfl ?_
      refine J_geti (pc := 86) dX8_next_86 kc8 fl_X8_25 rfl ?_
      refine J_t1 (y := nI b) rfl ?_
      refine J_bl (pc := 89) dX8_next_89 rfl rfl ⟨by omega, by decide⟩ ?_
      refine J_t1 e1 ?_
      refine J_sipush (pc := 90) (v := 255) dX8_next_90 (by decide) ?_
      refine J_iand (pc := 93) dX8_next_93 ?_
      refine J_t1 (b8_and _ e2) ?_
      refine J_goto (pc := 94) (tgt := 98) dX8_next_94 (by decide) ?_
      exact J_iret (pc := 98) rfl rfl rfl dX8_next_98 (rq hQ (by unfold bv; first | rw [if_pos (hx.2.2.2 b ((nI_leI (by omega) (by omega)).mp c66))] | rw [if_neg (by omega)]) rfl)
  have key : ∀ m a, a + m = n → pbl cc n a = pbl cc n u.1 → J g mX8_next 0 [] 0 [some (.ref 1)] [] (hs (ct S (a, u.2))) sz 0 0 Q := by
    intro m
    induction m with
    | zero =>
      intro a ha hp
      have hpa : pbl cc n a = a := pbl_id (by rw [hx.2.2.2 a (by omega)]; decide)
      refine J_aload_n (pc := 0) dX8_next_0 rfl ?_
      refine J_geti (pc := 1) dX8_next_1 kc8 fl_X8_25 rfl ?_
      refine J_t1 (y := nI a) rfl ?_
      refine J_aload_n (pc := 4) dX8_next_4 rfl ?_
      refine J_geti (pc := 5) dX8_next_5 kc8 fl_X8_22 rfl ?_
      refine J_t1 (y := nI n) hx.1 ?_
      refine J_icmp_ge (pc := 8) (tgt := 50) dX8_next_8 (by decide) (fun c8 => ?_) (fun c8 => absurd (nI_le (by omega) (by omega)) c8)
      exact fin a (by omega) (by rw [← hp, hpa])
    | succ m ih =>
      intro a ha hp
      obtain ⟨e1, e2⟩ := hx.2.2.1 a (by omega)
      refine J_aload_n (pc := 0) dX8_next_0 rfl ?_
      refine J_geti (pc := 1) dX8_next_1 kc8 fl_X8_25 rfl ?_
      refine J_t1 (y := nI a) rfl ?_
      refine J_aload_n (pc := 4) dX8_next_4 rfl ?_
      refine J_geti (pc := 5) dX8_next_5 kc8 fl_X8_22 rfl ?_
      refine J_t1 (y := nI n) hx.1 ?_
      refine J_icmp_ge (pc := 8) (tgt := 50) dX8_next_8 (by decide) (fun c8 => absurd c8 (nI_ge (by omega) (by omega))) (fun c8 => ?_)
      refine J_aload_n (pc := 11) dX8_next_11 rfl ?_
      refine J_geti (pc := 12) dX8_next_12 kc8 fl_X8_25 rfl ?_
      refine J_t1 (y := nI a) rfl ?_
      refine J_aload_n (pc := 15) dX8_next_15 rfl ?_
      refine J_getr (pc := 16) dX8_next_16 kc8 fl_X8_9 rfl ?_
      refine J_al (pc := 19) dX8_next_19 (by first | rfl | assumption) (by decide) rfl ?_
      refine J_icmp_ge (pc := 20) (tgt := 50) dX8_next_20 (by decide) (fun c20 => absurd c20 (nI_ge (b := 600) (by omega) (by decide))) (fun c20 => ?_)
      refine J_aload_n (pc := 23) dX8_next_23 rfl ?_
      refine J_getr (pc := 24) dX8_next_24 kc8 fl_X8_9 rfl ?_
      refine J_aload_n (pc := 27) dX8_next_27 rfl ?_
      refine J_geti (pc := 28) dX8_next_28 kc8 fl_X8_25 rfl ?_
      refine J_t1 (y := nI a) rfl ?_
      refine J_bl (pc := 31) dX8_next_31 rfl rfl ⟨by omega, by decide⟩ ?_
      refine J_t1 e1 ?_
      refine J_bipush (pc := 32) (v := 32) dX8_next_32 (by decide) ?_
      refine J_icmp_ne (pc := 34) (tgt := 50) dX8_next_34 (by decide) (fun c34 => ?_) (fun c34 => ?_)
      · exact fin a (by omega) (by rw [← hp]; exact pbl_id (fun q => c34 ((b8_32 _ e2).mpr q)))
      · refine J_aload_n (pc := 37) dX8_next_37 rfl ?_
        refine J_dup (pc := 38) dX8_next_38 rfl ?_
        refine J_geti (pc := 39) dX8_next_39 kc8 fl_X8_25 rfl ?_
        refine J_t1 (y := nI a) rfl ?_
        refine J_iconst (pc := 42) (v := 1) dX8_next_42 (by decide) ?_
        refine J_iadd (pc := 43) dX8_next_43 ?_
        rw [nI_1]
        refine J_puti (pc := 44) dX8_next_44 kc8 fl_X8_25 rfl ⟨rfl, rfl⟩ ?_
        rw [ct_at]
        refine J_goto (pc := 47) (tgt := 0) dX8_next_47 (by decide) ?_
        exact ih (a + 1) (by omega) (by rw [← hp]; exact (pbl_s (by omega) ((b8_32 _ e2).mp c34)).symm)
  exact key (n - u.1) u.1 (by have := hu.1; omega) rfl
def udm (cc : Nat → Nat) (n c : Nat) (u : UT) : UT := if cc (pbl cc n u.1) = c then (pbl cc n u.1 + 1, pbl cc n u.1, u.2.2) else um 1 (pbl cc n u.1) (unx cc n u)
theorem UO_dm {S : Sx} {n c : Nat} {cc : Nat → Nat} (hx : CTX S n cc) {u : UT} (h : UO n u) (hc : c < 256) : UO n (udm cc n c u) := by
  unfold udm
  split
  · have := CTX_lt hx (by assumption) hc
    exact ⟨this, Nat.le_succ _, h.2.2⟩
  · exact UO_um (UO_nx h) (by omega) (pbl_le cc h.1)
theorem r_X8_demand {g : Gp} {S : Sx} {n : Nat} {cc : Nat → Nat} (hx : CTX S n cc) {u : UT} (hu : UO n u) {c : Nat} (hc : c < 256) : RT g mX8_demand 1 [.ref 1, .int (nI c)] (ct S u) none (ct S (udm cc n c u)) := by
  refine RT_ofQ ⟨rfl, rfl⟩ (Nat.le_of_ble_eq_true rfl) (fun sz Q hQ => ?_)
  have n6 := hx.2.1
  have hle := pbl_le cc hu.1
  refine J_aload_n (pc := 0) dX8_demand_0 rfl ?_
  refine J_cvr (pc := 1) (N := mX8_next) dX8_demand_1 ml_X8_34 cf_X8_next cv_X8_next (r_X8_next hx hu) rfl rfl (Nat.le_of_ble_eq_true rfl) (by decide) (rv_of (ci := 8) rfl rfl rfl) ?_
  refine J_iload_n (pc := 4) dX8_demand_4 rfl ?_
  refine J_icmp_ne (pc := 5) (tgt := 21) dX8_demand_5 (by decide) (fun c5 => ?_) (fun c5 => ?_)
  · have hne : ¬ cc (pbl cc n u.1) = c := fun q => c5 ((bv_eq (CTX_le hx _) hc).mpr q)
    refine J_aload_n (pc := 21) dX8_demand_21 rfl ?_
    refine J_iconst (pc := 22) (v := 1) dX8_demand_22 (by decide) ?_
    refine J_aload_n (pc := 23) dX8_demand_23 rfl ?_
    refine J_geti (pc := 24) dX8_demand_24 kc8 fl_X8_25 rfl ?_
    refine J_t1 (y := nI (pbl cc n u.1)) rfl ?_
    refine J_cvv (pc := 27) (N := mX8_mark) dX8_demand_27 ml_X8_44 cf_X8_mark cv_X8_mark (r_X8_mark (k := 1) (UO_nx hu) (by decide)) rfl rfl (Nat.le_of_ble_eq_true rfl) (by decide) (rv_of (ci := 8) rfl rfl rfl) ?_
    exact J_ret (pc := 30) rfl rfl dX8_demand_30 (rqv hQ (by unfold udm; first | (rw [if_pos heq]; rfl) | (rw [if_neg hne])))
  · have heq : cc (pbl cc n u.1) = c := (bv_eq (CTX_le hx _) hc).mp c5
    refine J_aload_n (pc := 8) dX8_demand_8 rfl ?_
    refine J_dup (pc := 9) dX8_demand_9 rfl ?_
    refine J_geti (pc := 10) dX8_demand_10 kc8 fl_X8_25 rfl ?_
    refine J_t1 (y := nI (pbl cc n u.1)) rfl ?_
    refine J_iconst (pc := 13) (v := 1) dX8_demand_13 (by decide) ?_
    refine J_iadd (pc := 14) dX8_demand_14 ?_
    rw [nI_1]
    refine J_puti (pc := 15) dX8_demand_15 kc8 fl_X8_25 rfl ⟨rfl, rfl⟩ ?_
    rw [ct_at]
    refine J_goto (pc := 18) (tgt := 30) dX8_demand_18 (by decide) ?_
    exact J_ret (pc := 30) rfl rfl dX8_demand_30 (rqv hQ (by unfold udm; first | (rw [if_pos heq]; rfl) | (rw [if_neg hne])))
theorem r_X8_isDigit {g : Gp} {S : Sx} {x : Int32} : RT g mX8_isDigit 0 [.ref 1, .int x] S (some (.int (bI (decide (48 ≤ x ∧ x ≤ 57))))) S := by
  refine RT_ofQ ⟨rfl, rfl⟩ (Nat.le_of_ble_eq_true rfl) (fun sz Q hQ => ?_)
  refine J_iload_n (pc := 0) dX8_isDigit_0 rfl ?_
  refine J_bipush (pc := 1) (v := 48) dX8_isDigit_1 (by decide) ?_
  refine J_icmp_lt (pc := 3) (tgt := 16) dX8_isDigit_3 (by decide) (fun c3 => ?_) (fun c3 => ?_)
  · refine J_iconst (pc := 16) (v := 0) dX8_isDigit_16 (by decide) ?_
    exact J_iret (pc := 17) rfl rfl rfl dX8_isDigit_17 (rq hQ (by first | exact Eq.symm (bI_t ⟨Int32.not_lt.mp c3, Int32.not_lt.mp c9⟩) | exact Eq.symm (bI_f (fun q => Int32.not_le.mpr c3 q.1)) | exact Eq.symm (bI_f (fun q => Int32.not_le.mpr c9 q.2))) rfl)
  · refine J_iload_n (pc := 6) dX8_isDigit_6 rfl ?_
    refine J_bipush (pc := 7) (v := 57) dX8_isDigit_7 (by decide) ?_
    refine J_icmp_gt (pc := 9) (tgt := 16) dX8_isDigit_9 (by decide) (fun c9 => ?_) (fun c9 => ?_)
    · refine J_iconst (pc := 16) (v := 0) dX8_isDigit_16 (by decide) ?_
      exact J_iret (pc := 17) rfl rfl rfl dX8_isDigit_17 (rq hQ (by first | exact Eq.symm (bI_t ⟨Int32.not_lt.mp c3, Int32.not_lt.mp c9⟩) | exact Eq.symm (bI_f (fun q => Int32.not_le.mpr c3 q.1)) | exact Eq.symm (bI_f (fun q => Int32.not_le.mpr c9 q.2))) rfl)
    · refine J_iconst (pc := 12) (v := 1) dX8_isDigit_12 (by decide) ?_
      refine J_goto (pc := 13) (tgt := 17) dX8_isDigit_13 (by decide) ?_
      exact J_iret (pc := 17) rfl rfl rfl dX8_isDigit_17 (rq hQ (by first | exact Eq.symm (bI_t ⟨Int32.not_lt.mp c3, Int32.not_lt.mp c9⟩) | exact Eq.symm (bI_f (fun q => Int32.not_le.mpr c3 q.1)) | exact Eq.symm (bI_f (fun q => Int32.not_le.mpr c9 q.2))) rfl)
theorem r_X8_isLetter {g : Gp} {S : Sx} {x : Int32} : RT g mX8_isLetter 0 [.ref 1, .int x] S (some (.int (bI (decide (97 ≤ x ∧ x ≤ 122))))) S := by
  refine RT_ofQ ⟨rfl, rfl⟩ (Nat.le_of_ble_eq_true rfl) (fun sz Q hQ => ?_)
  refine J_iload_n (pc := 0) dX8_isLetter_0 rfl ?_
  refine J_bipush (pc := 1) (v := 97) dX8_isLetter_1 (by decide) ?_
  refine J_icmp_lt (pc := 3) (tgt := 16) dX8_isLetter_3 (by decide) (fun c3 => ?_) (fun c3 => ?_)
  · refine J_iconst (pc := 16) (v := 0) dX8_isLetter_16 (by decide) ?_
    exact J_iret (pc := 17) rfl rfl rfl dX8_isLetter_17 (rq hQ (by first | exact Eq.symm (bI_t ⟨Int32.not_lt.mp c3, Int32.not_lt.mp c9⟩) | exact Eq.symm (bI_f (fun q => Int32.not_le.mpr c3 q.1)) | exact Eq.symm (bI_f (fun q => Int32.not_le.mpr c9 q.2))) rfl)
  · refine J_iload_n (pc := 6) dX8_isLetter_6 rfl ?_
    refine J_bipush (pc := 7) (v := 122) dX8_isLetter_7 (by decide) ?_
    refine J_icmp_gt (pc := 9) (tgt := 16) dX8_isLetter_9 (by decide) (fun c9 => ?_) (fun c9 => ?_)
    · refine J_iconst (pc := 16) (v := 0) dX8_isLetter_16 (by decide) ?_
      exact J_iret (pc := 17) rfl rfl rfl dX8_isLetter_17 (rq hQ (by first | exact Eq.symm (bI_t ⟨Int32.not_lt.mp c3, Int32.not_lt.mp c9⟩) | exact Eq.symm (bI_f (fun q => Int32.not_le.mpr c3 q.1)) | exact Eq.symm (bI_f (fun q => Int32.not_le.mpr c9 q.2))) rfl)
    · refine J_iconst (pc := 12) (v := 1) dX8_isLetter_12 (by decide) ?_
      refine J_goto (pc := 13) (tgt := 17) dX8_isLetter_13 (by decide) ?_
      exact J_iret (pc := 17) rfl rfl rfl dX8_isLetter_17 (rq hQ (by first | exact Eq.symm (bI_t ⟨Int32.not_lt.mp c3, Int32.not_lt.mp c9⟩) | exact Eq.symm (bI_f (fun q => Int32.not_le.mpr c3 q.1)) | exact Eq.symm (bI_f (fun q => Int32.not_le.mpr c9 q.2))) rfl)
def unm (cc : Nat → Nat) (n lo hi : Nat) (u : UT) : Option Nat × UT := if isD (cc (pbl cc n u.1)) = true then (if lo ≤ nvl 1000000 cc (n - pbl cc n u.1) (pbl cc n u.1) 0 ∧ nvl 1000000 cc (n - pbl cc n u.1) (pbl cc n u.1) 0 < hi then (some (nvl 1000000 cc (n - pbl cc n u.1) (pbl cc n u.1) 0), (pde cc n (pbl cc n u.1), pbl cc n u.1, u.2.2)) else (none, um 2 (pbl cc n u.1) (pde cc n (pbl cc n u.1), pbl cc n u.1, u.2.2))) else (none, um 1 (pbl cc n u.1) (unx cc n u))
theorem UO_nm {n lo hi : Nat} {cc : Nat → Nat} {u : UT} (h : UO n u) : UO n (unm cc n lo hi u).2 := by
  have hle := pbl_le cc h.1
  unfold unm
  split
  · split
    · exact ⟨pde_le cc hle, pde_ge cc n _, h.2.2⟩
    · exact UO_um ⟨pde_le cc hle, pde_ge cc n _, h.2.2⟩ (by omega) hle
  · exact UO_um (UO_nx h) (by omega) hle
theorem nvl_t {cap : Nat} {cc : Nat → Nat} {f a v : Nat} (h : isD (cc a) = true) : nvl cap cc (f + 1) a v = nvl cap cc f (a + 1) (min cap (10 * v + (cc a - 48))) := if_pos h
theorem pde_s {cc : Nat → Nat} {n a : Nat} (h : a < n) (e : isD (cc a) = true) : pde cc n a = pde cc n (a + 1) := by
  unfold pde
  rw [show n - a = (n - (a + 1)) + 1 by omega]
  exact skp_t (P := fun k => isD (cc k)) e
theorem pde_id {cc : Nat → Nat} {n a : Nat} (h : ¬ isD (cc a) = true) : pde cc n a = a := skp_f h
theorem mn_1M {v c : Nat} (hv : v ≤ 1000000) (h1 : 48 ≤ c) (h2 : c ≤ 57) : (if nI v * 10 + nI c - 48 < 1000000 then nI v * 10 + nI c - 48 else 1000000) = nI (min 1000000 (10 * v + (c - 48))) := by
  have e : nI v * 10 + nI c - 48 = nI (10 * v + (c - 48)) := by
    rw [show (10 : Int32) = nI 10 from rfl, pk_mul, nI_add, show (48 : Int32) = nI 48 from rfl, pk_sub (by omega), show v * 10 + c - 48 = 10 * v + (c - 48) by omega]
  rw [e, show (1000000 : Int32) = nI 1000000 from rfl]
  have hw : 10 * v + (c - 48) < 2 ^ 31 := by omega
  generalize 10 * v + (c - 48) = w at hw ⊢
  by_cases q : w < 1000000
  · rw [if_pos (nI_lt (b := 1000000) q (by decide)), Nat.min_eq_right (by omega)]
  · rw [if_neg (nI_nlt (a := w) (b := 1000000) (by omega) hw), Nat.min_eq_left (by omega)]
theorem r_X8_number {g : Gp} {S : Sx} {n : Nat} {cc : Nat → Nat} (hx : CTX S n cc) {u : UT} (hu : UO n u) {lo hi : Nat} {xl xh : Int32} (hl : xl = nI lo) (hh : xh = nI hi - 1) (hl2 : lo < 2 ^ 20) (hh2 : hi < 2 ^ 20) : RT g mX8_number 2 [.ref 1, .int xl, .int xh] (ct S u) (some (.int (ov (unm cc n lo hi u).1))) (ct S (unm cc n lo hi u).2) := by
  refine RT_ofQ ⟨rfl, rfl⟩ (Nat.le_of_ble_eq_true rfl) (fun sz Q hQ => ?_)
  have n6 := hx.2.1
  have hle := pbl_le cc hu.1
  obtain ⟨b, hb⟩ : ∃ b, pbl cc n u.1 = b := ⟨_, rfl⟩
  unfold unm unx at hQ
  rw [hb] at hQ hle
  refine J_aload_n (pc := 0) dX8_number_0 rfl ?_
  refine J_aload_n (pc := 1) dX8_number_1 rfl ?_
  refine J_cvr (pc := 2) (N := mX8_next) dX8_number_2 ml_X8_34 cf_X8_next cv_X8_next (r_X8_next hx hu) rfl rfl (Nat.le_of_ble_eq_true rfl) (by decide) (rv_of (ci := 8) rfl rfl rfl) ?_
  unfold unx
  rw [hb]
  refine J_cvr (pc := 5) (N := mX8_isDigit) dX8_number_5 ml_X8_48 cf_X8_isDigit cv_X8_isDigit r_X8_isDigit rfl rfl (Nat.le_of_ble_eq_true rfl) (by decide) (rv_of (ci := 8) rfl rfl rfl) ?_
  refine J_ifp_ne (pc := 8) (tgt := 22) dX8_number_8 (by decide) (fun c8 => ?_) (fun c8 => ?_)
  · rw [if_pos ((bv_D (CTX_le hx _)).mp c8)] at hQ
    refine J_iconst (pc := 22) (v := 0) dX8_number_22 (by decide) ?_
    refine J_istore_n (pc := 23) dX8_number_23 (by decide) rfl ?_
    have fin : ∀ a v, a ≤ n → b ≤ a → v ≤ 1000000 → pde cc n b = a → (nvl 1000000 cc (n - b) b 0) = v → J g mX8_number 2 [] 85 [some (.ref 1), some (.int xl), some (.int xh), some (.int (nI v))] [] (hs (ct S (a, b, u.2.2))) sz 0 0 Q := by
      intro a v ha hba hv hpa hva
      rw [hpa, hva] at hQ
      have hin := inH (v := v) hl hh (by omega) hl2 hh2
      refine J_iload_n (pc := 85) dX8_number_85 rfl ?_
      refine J_iload_n (pc := 86) dX8_number_86 rfl ?_
      refine J_icmp_lt (pc := 87) (tgt := 95) dX8_number_87 (by decide) (fun c87 => ?_) (fun c87 => ?_)
      · rw [if_neg (fun q => absurd (hin.mpr q).1 (Int32.not_le.mpr c87))] at hQ
        refine J_aload_n (pc := 95) dX8_number_95 rfl ?_
        refine J_iconst (pc := 96) (v := 2) dX8_number_96 (by decide) ?_
        refine J_aload_n (pc := 97) dX8_number_97 rfl ?_
        refine J_geti (pc := 98) dX8_number_98 kc8 fl_X8_28 rfl ?_
        refine J_t1 (y := nI b) rfl ?_
        refine J_cvv (pc := 101) (N := mX8_mark) dX8_number_101 ml_X8_44 cf_X8_mark cv_X8_mark (r_X8_mark (n := n) (k := 2) ⟨ha, hba, hu.2.2⟩ (by decide)) rfl rfl (Nat.le_of_ble_eq_true rfl) (by decide) (rv_of (ci := 8) rfl rfl rfl) ?_
        refine J_iconst (pc := 104) (v := -1) dX8_number_104 (by decide) ?_
        exact J_iret (pc := 105) rfl rfl rfl dX8_number_105 (rq hQ rfl rfl)
      · refine J_iload_n (pc := 90) dX8_number_90 rfl ?_
        refine J_iload_n (pc := 91) dX8_number_91 rfl ?_
        refine J_icmp_le (pc := 92) (tgt := 106) dX8_number_92 (by decide) (fun c92 => ?_) (fun c92 => ?_)
        · rw [if_pos (hin.mp ⟨Int32.not_lt.mp c87, c92⟩)] at hQ
          refine J_iload_n (pc := 106) dX8_number_106 rfl ?_
          exact J_iret (pc := 107) rfl rfl rfl dX8_number_107 (rq hQ rfl rfl)
        · rw [if_neg (fun q => c92 (hin.mpr q).2)] at hQ
          refine J_aload_n (pc := 95) dX8_number_95 rfl ?_
          refine J_iconst (pc := 96) (v := 2) dX8_number_96 (by decide) ?_
          refine J_aload_n (pc := 97) dX8_number_97 rfl ?_
          refine J_geti (pc := 98) dX8_number_98 kc8 fl_X8_28 rfl ?_
          refine J_t1 (y := nI b) rfl ?_
          refine J_cvv (pc := 101) (N := mX8_mark) dX8_number_101 ml_X8_44 cf_X8_mark cv_X8_mark (r_X8_mark (n := n) (k := 2) ⟨ha, hba, hu.2.2⟩ (by decide)) rfl rfl (Nat.le_of_ble_eq_true rfl) (by decide) (rv_of (ci := 8) rfl rfl rfl) ?_
          refine J_iconst (pc := 104) (v := -1) dX8_number_104 (by decide) ?_
          exact J_iret (pc := 105) rfl rfl rfl dX8_number_105 (rq hQ rfl rfl)
    have key : ∀ m a v, a + m = n → b ≤ a → v ≤ 1000000 → pde cc n a = pde cc n b → nvl 1000000 cc m a v = (nvl 1000000 cc (n - b) b 0) → J g mX8_number 2 [] 24 [some (.ref 1), some (.int xl), some (.int xh), some (.int (nI v))] [] (hs (ct S (a, b, u.2.2))) sz 0 0 Q := by
      intro m
      induction m with
      | zero =>
        intro a v ha hba hv hpa hva
        have hid : pde cc n a = a := pde_id (by rw [hx.2.2.2 a (by omega)]; decide)
        refine J_aload_n (pc := 24) dX8_number_24 rfl ?_
        refine J_geti (pc := 25) dX8_number_25 kc8 fl_X8_25 rfl ?_
        refine J_t1 (y := nI a) rfl ?_
        refine J_aload_n (pc := 28) dX8_number_28 rfl ?_
        refine J_geti (pc := 29) dX8_number_29 kc8 fl_X8_22 rfl ?_
        refine J_t1 (y := nI n) hx.1 ?_
        refine J_icmp_ge (pc := 32) (tgt := 85) dX8_number_32 (by decide) (fun c32 => ?_) (fun c32 => absurd (nI_le (by omega) (by omega)) c32)
        exact fin a v (by omega) hba hv (by rw [← hpa, hid]) hva.symm
      | succ m ih =>
        intro a v ha hba hv hpa hva
        refine J_aload_n (pc := 24) dX8_number_24 rfl ?_
        refine J_geti (pc := 25) dX8_number_25 kc8 fl_X8_25 rfl ?_
        refine J_t1 (y := nI a) rfl ?_
        refine J_aload_n (pc := 28) dX8_number_28 rfl ?_
        refine J_geti (pc := 29) dX8_number_29 kc8 fl_X8_22 rfl ?_
        refine J_t1 (y := nI n) hx.1 ?_
        refine J_icmp_ge (pc := 32) (tgt := 85) dX8_number_32 (by decide) (fun c32 => absurd c32 (nI_ge (by omega) (by omega))) (fun c32 => ?_)
        refine J_aload_n (pc := 35) dX8_number_35 rfl ?_
        refine J_aload_n (pc := 36) dX8_number_36 rfl ?_
        refine J_aload_n (pc := 37) dX8_number_37 rfl ?_
        refine J_geti (pc := 38) dX8_number_38 kc8 fl_X8_25 rfl ?_
        refine J_t1 (y := nI a) rfl ?_
        refine J_cvr (pc := 41) (N := mX8_byteAt) dX8_number_41 ml_X8_52 cf_X8_byteAt cv_X8_byteAt (r_X8_byteAt hx (by omega)) rfl rfl (Nat.le_of_ble_eq_true rfl) (by decide) (rv_of (ci := 8) rfl rfl rfl) ?_
        refine J_cvr (pc := 44) (N := mX8_isDigit) dX8_number_44 ml_X8_48 cf_X8_isDigit cv_X8_isDigit r_X8_isDigit rfl rfl (Nat.le_of_ble_eq_true rfl) (by decide) (rv_of (ci := 8) rfl rfl rfl) ?_
        refine J_ifp_eq (pc := 47) (tgt := 85) dX8_number_47 (by decide) (fun c47 => ?_) (fun c47 => ?_)
        · have nd : ¬ isD (cc a) = true := fun q => c47 ((bv_D (CTX_le hx _)).mpr q)
          exact fin a v (by omega) hba hv (by rw [← hpa]; exact pde_id nd) (by rw [← hva, nvl_f nd])
        · have nd : isD (cc a) = true := (bv_D (CTX_le hx _)).mp c47
          have dr : 48 ≤ cc a ∧ cc a ≤ 57 := of_decide_eq_true nd
          refine J_ldc (pc := 50) (v := 1000000) dX8_number_50 kt_X8_55 ?_
          refine J_iload_n (pc := 52) dX8_number_52 rfl ?_
          refine J_bipush (pc := 53) (v := 10) dX8_number_53 (by decide) ?_
          refine J_imul (pc := 55) dX8_number_55 ?_
          refine J_aload_n (pc := 56) dX8_number_56 rfl ?_
          refine J_aload_n (pc := 57) dX8_number_57 rfl ?_
          refine J_geti (pc := 58) dX8_number_58 kc8 fl_X8_25 rfl ?_
          refine J_t1 (y := nI a) rfl ?_
          refine J_cvr (pc := 61) (N := mX8_byteAt) dX8_number_61 ml_X8_52 cf_X8_byteAt cv_X8_byteAt (r_X8_byteAt hx (by omega)) rfl rfl (Nat.le_of_ble_eq_true rfl) (by decide) (rv_of (ci := 8) rfl rfl rfl) ?_
          refine J_t1 (y := nI (cc a)) (if_neg (by omega)) ?_
          refine J_iadd (pc := 64) dX8_number_64 ?_
          refine J_bipush (pc := 65) (v := 48) dX8_number_65 (by decide) ?_
          refine J_isub (pc := 67) dX8_number_67 ?_
          refine J_mmin (pc := 68) dX8_number_68 ml_X8_56 (Nat.le_of_ble_eq_true rfl) ?_
          refine J_t1 (mn_1M hv dr.1 dr.2) ?_
          refine J_istore_n (pc := 71) dX8_number_71 (by decide) rfl ?_
          refine J_aload_n (pc := 72) dX8_number_72 rfl ?_
          refine J_dup (pc := 73) dX8_number_73 rfl ?_
          refine J_geti (pc := 74) dX8_number_74 kc8 fl_X8_25 rfl ?_
          refine J_t1 (y := nI a) rfl ?_
          refine J_iconst (pc := 77) (v := 1) dX8_number_77 (by decide) ?_
          refine J_iadd (pc := 78) dX8_number_78 ?_
          rw [nI_1]
          refine J_puti (pc := 79) dX8_number_79 kc8 fl_X8_25 rfl ⟨rfl, rfl⟩ ?_
          rw [ct_at]
          refine J_goto (pc := 82) (tgt := 24) dX8_number_82 (by decide) ?_
          exact ih (a + 1) _ (by omega) (by omega) (Nat.min_le_left _ _) (by rw [← hpa]; exact (pde_s (by omega) nd).symm) (by rw [← hva, nvl_t nd])
    exact key (n - b) b 0 (by omega) (Nat.le_refl _) (Nat.zero_le _) rfl rfl
  · rw [if_neg (fun q => c8 ((bv_D (CTX_le hx _)).mpr q))] at hQ
    refine J_aload_n (pc := 11) dX8_number_11 rfl ?_
    refine J_iconst (pc := 12) (v := 1) dX8_number_12 (by decide) ?_
    refine J_aload_n (pc := 13) dX8_number_13 rfl ?_
    refine J_geti (pc := 14) dX8_number_14 kc8 fl_X8_25 rfl ?_
    refine J_t1 (y := nI b) rfl ?_
    refine J_cvv (pc := 17) (N := mX8_mark) dX8_number_17 ml_X8_44 cf_X8_mark cv_X8_mark (r_X8_mark (n := n) (k := 1) ⟨hle, Nat.le_refl _, hu.2.2⟩ (by decide)) rfl rfl (Nat.le_of_ble_eq_true rfl) (by decide) (rv_of (ci := 8) rfl rfl rfl) ?_
    refine J_iconst (pc := 20) (v := -1) dX8_number_20 (by decide) ?_
    exact J_iret (pc := 21) rfl rfl rfl dX8_number_21 (rq hQ rfl rfl)
def utk (cc : Nat → Nat) (n : Nat) (f : Nat → Option Nat) (u : UT) : Option Nat × UT := match f (cc (pbl cc n u.1)) with
  | some k => (some k, (pbl cc n u.1 + 1, pbl cc n u.1, u.2.2))
  | none => (none, unx cc n u)
def sg1 (c : Nat) : Option Nat := if c = 43 then some 0 else if c = 45 then some 1 else none
def sg2 (c : Nat) : Option Nat := if c = 42 then some 0 else if c = 47 then some 1 else if c = 37 then some 2 else none
def sg3 (c : Nat) : Option Nat := if c = 40 then some 0 else none
def sgs (i : Nat) : Nat → Option Nat := if i = 1 then sg1 else if i = 2 then sg2 else sg3
set_option maxRecDepth 100000 in
theorem sgs_ok : ∀ i, i < 3 → ∀ c, c < 256 → fst1 (fun k => decide (sB (i + 1) k = (nI c).toInt8.toInt32)) (sN (i + 1)) = ov (sgs (i + 1) c) := by decide +kernel
theorem sgs_9 : ∀ i, i < 3 → sgs (i + 1) 999 = none := by decide
set_option maxRecDepth 100000 in
theorem sgs_l : ∀ i, i < 3 → 0 < sN (i + 1) := by decide +kernel
theorem UO_tk {S : Sx} {n i : Nat} {cc : Nat → Nat} (hx : CTX S n cc) {u : UT} (h : UO n u) (hi : i < 3) : UO n (utk cc n (sgs (i + 1)) u).2 := by
  unfold utk
  split
  · rename_i k e
    have : pbl cc n u.1 < n := by
      by_cases q : pbl cc n u.1 < n
      · exact q
      · rw [hx.2.2.2 _ (by omega), sgs_9 i hi] at e; cases e
    exact ⟨this, Nat.le_succ _, h.2.2⟩
  · exact UO_nx h
theorem ov_m {x : Option Nat} (hx : ∀ k, x = some k → k < 2 ^ 31) : ov x = -1 ↔ x = none := by
  cases x with
  | none => exact ⟨fun _ => rfl, fun _ => rfl⟩
  | some k => exact ⟨fun h => absurd h (nI_nm (hx k rfl)), fun h => by cases h⟩
theorem sg1_b {c k : Nat} (h : sg1 c = some k) : k < 3 := by
  unfold sg1 at h
  split at h
  · cases h; decide
  · split at h
    · cases h; decide
    · cases h
theorem sg2_b {c k : Nat} (h : sg2 c = some k) : k < 3 := by
  unfold sg2 at h
  split at h
  · cases h; decide
  · split at h
    · cases h; decide
    · split at h
      · cases h; decide
      · cases h
theorem sg3_b {c k : Nat} (h : sg3 c = some k) : k < 3 := by
  unfold sg3 at h
  split at h
  · cases h; decide
  · cases h
theorem sgs_b : ∀ i, i < 3 → ∀ c k, sgs (i + 1) c = some k → k < 3 := by
  intro i hi c k h
  obtain rfl | rfl | rfl : i = 0 ∨ i = 1 ∨ i = 2 := by omega
  · exact sg1_b h
  · exact sg2_b h
  · exact sg3_b h
theorem r_X8_takeOne {g : Gp} {S : Sx} {n : Nat} {cc : Nat → Nat} (hx : CTX S n cc) {u : UT} (hu : UO n u) {i : Nat} (hi : i < 3) : RT g mX8_takeOne 4 [.ref 1, .ref (SB + (i + 1))] (ct S u) (some (.int (ov (utk cc n (sgs (i + 1)) u).1))) (ct S (utk cc n (sgs (i + 1)) u).2) := by
  refine RT_ofQ ⟨rfl, rfl⟩ (Nat.le_of_ble_eq_true rfl) (fun sz Q hQ => ?_)
  have hi8 : i + 1 < 8 := by omega
  obtain ⟨b, hb⟩ : ∃ b, pbl cc n u.1 = b := ⟨_, rfl⟩
  unfold utk unx at hQ
  rw [hb] at hQ
  refine J_aload_n (pc := 0) dX8_takeOne_0 rfl ?_
  refine J_cvr (pc := 1) (N := mX8_next) dX8_takeOne_1 ml_X8_34 cf_X8_next cv_X8_next (r_X8_next hx hu) rfl rfl (Nat.le_of_ble_eq_true rfl) (by decide) (rv_of (ci := 8) rfl rfl rfl) ?_
  unfold unx
  rw [hb]
  refine J_istore_n (pc := 4) dX8_takeOne_4 (by decide) rfl ?_
  have join : ∀ w, ov (sgs (i + 1) (cc b)) = w → J g mX8_takeOne 4 [] 20 [some (.ref 1), some (.ref (SB + (i + 1))), some (.int (bv (cc b))), none] [.int w] (hs (ct S (b, b, u.2.2))) sz 0 0 Q := by
    intro w hw
    refine J_istore_n (pc := 20) dX8_takeOne_20 (by decide) rfl ?_
    refine J_iload_n (pc := 21) dX8_takeOne_21 rfl ?_
    refine J_iconst (pc := 22) (v := -1) dX8_takeOne_22 (by decide) ?_
    cases hs : sgs (i + 1) (cc b) with
    | none =>
      rw [hs] at hQ hw
      refine J_icmp_eq (pc := 23) (tgt := 36) dX8_takeOne_23 (by decide) (fun c23 => ?_) (fun c23 => absurd hw.symm c23)
      refine J_iload_n (pc := 36) dX8_takeOne_36 rfl ?_
      exact J_iret (pc := 37) rfl rfl rfl dX8_takeOne_37 (rq hQ hw.symm rfl)
    | some k =>
      rw [hs] at hQ hw
      have hk := sgs_b i hi _ _ hs
      refine J_icmp_eq (pc := 23) (tgt := 36) dX8_takeOne_23 (by decide) (fun c23 => absurd (hw.trans c23) (nI_nm (by omega))) (fun c23 => ?_)
      refine J_aload_n (pc := 26) dX8_takeOne_26 rfl ?_
      refine J_dup (pc := 27) dX8_takeOne_27 rfl ?_
      refine J_geti (pc := 28) dX8_takeOne_28 kc8 fl_X8_25 rfl ?_
      refine J_t1 (y := nI b) rfl ?_
      refine J_iconst (pc := 31) (v := 1) dX8_takeOne_31 (by decide) ?_
      refine J_iadd (pc := 32) dX8_takeOne_32 ?_
      rw [nI_1]
      refine J_puti (pc := 33) dX8_takeOne_33 kc8 fl_X8_25 rfl ⟨rfl, rfl⟩ ?_
      rw [ct_at]
      refine J_iload_n (pc := 36) dX8_takeOne_36 rfl ?_
      exact J_iret (pc := 37) rfl rfl rfl dX8_takeOne_37 (rq hQ hw.symm rfl)
  refine J_iload_n (pc := 5) dX8_takeOne_5 rfl ?_
  refine J_iconst (pc := 6) (v := -1) dX8_takeOne_6 (by decide) ?_
  refine J_icmp_ne (pc := 7) (tgt := 14) dX8_takeOne_7 (by decide) (fun c7 => ?_) (fun c7 => ?_)
  · have c9 : cc b < 256 := (CTX_le hx b).resolve_left (fun q => c7 (by rw [q]; rfl))
    have eb : bv (cc b) = nI (cc b) := if_neg (by omega)
    refine J_aload_n (pc := 14) dX8_takeOne_14 rfl ?_
    refine J_iload_n (pc := 15) dX8_takeOne_15 rfl ?_
    rw [eb]
    refine J_i2c (pc := 16) dX8_takeOne_16 ?_
    refine J_t1 (c16 _ c9) ?_
    refine J_cvr (pc := 17) (N := mJ0_indexOf_0f7a4) dX8_takeOne_17 ml_X8_38 cf_J0_indexOf_0f7a4 cv_J0_indexOf_0f7a4 (r_J0_indexOf_0f7a4 hi8 c9 (sgs_l i hi)) rfl rfl (Nat.le_of_ble_eq_true rfl) (by decide) (Or.inr ⟨rfl, Nat.le_add_right _ _, Nat.add_lt_add_left hi8 _⟩) ?_
    first
      | exact join _ (by rw [c9, sgs_9 i hi]; rfl)
      | (have := join _ (sgs_ok i hi _ c9).symm
         rw [eb] at this
         exact this)
  · have c9 : cc b = 999 := by
      rcases CTX_le hx b with q | q
      · exact q
      · exact absurd c7 (by unfold bv; rw [if_neg (by omega)]; exact nI_nm (by omega))
    refine J_iconst (pc := 10) (v := -1) dX8_takeOne_10 (by decide) ?_
    refine J_goto (pc := 11) (tgt := 20) dX8_takeOne_11 (by decide) ?_
    first
      | exact join _ (by rw [c9, sgs_9 i hi]; rfl)
      | (have := join _ (sgs_ok i hi _ c9).symm
         rw [eb] at this
         exact this)
