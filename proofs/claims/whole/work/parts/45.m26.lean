/-! ===== words ===== -/
def hF (d : Nat → Nat) : Nat → Nat
  | 0 => 0
  | k + 1 => 27 * hF d k + d k
theorem hF_inj {d e : Nat → Nat} : ∀ {k k' : Nat}, (∀ i, i < k → 1 ≤ d i ∧ d i ≤ 26) → (∀ i, i < k' → 1 ≤ e i ∧ e i ≤ 26) → hF d k = hF e k' → k = k' ∧ ∀ i, i < k → d i = e i
  | 0, 0, _, _, _ => ⟨rfl, fun i h => absurd h (Nat.not_lt_zero i)⟩
  | 0, k' + 1, _, h2, h => by
    have := h2 k' (Nat.lt_succ_self _)
    have h : 0 = 27 * hF e k' + e k' := h
    omega
  | k + 1, 0, h1, _, h => by
    have := h1 k (Nat.lt_succ_self _)
    have h : 27 * hF d k + d k = 0 := h
    omega
  | k + 1, k' + 1, h1, h2, h => by
    have a1 := h1 k (Nat.lt_succ_self _)
    have a2 := h2 k' (Nat.lt_succ_self _)
    have h : 27 * hF d k + d k = 27 * hF e k' + e k' := h
    have hh : hF d k = hF e k' := by omega
    obtain ⟨e1, e2⟩ := hF_inj (fun i hi => h1 i (Nat.lt_succ_of_lt hi)) (fun i hi => h2 i (Nat.lt_succ_of_lt hi)) hh
    subst e1
    refine ⟨rfl, fun i hi => ?_⟩
    by_cases q : i = k
    · subst q; omega
    · exact e2 i (by omega)
theorem hF_lt {d : Nat → Nat} : ∀ {k : Nat}, (∀ i, i < k → d i ≤ 26) → hF d k < 27 ^ k
  | 0, _ => by show 0 < 1; omega
  | k + 1, h => by
    have := hF_lt (fun i hi => h i (Nat.lt_succ_of_lt hi))
    have h2 := h k (Nat.lt_succ_self _)
    show 27 * hF d k + d k < 27 ^ (k + 1)
    rw [Nat.pow_succ]
    omega
theorem hF_congr {d e : Nat → Nat} : ∀ {k : Nat}, (∀ i, i < k → d i = e i) → hF d k = hF e k
  | 0, _ => rfl
  | k + 1, h => by
    show 27 * hF d k + d k = 27 * hF e k + e k
    rw [hF_congr (fun i hi => h i (Nat.lt_succ_of_lt hi)), h k (Nat.lt_succ_self _)]
def wIs (cc : Nat → Nat) (n a : Nat) (w : List Nat) : Bool := decide (pwe cc n a = a + w.length ∧ ∀ i, i < w.length → cc (a + i) = w.getD i 0)
def wix (cc : Nat → Nat) (n a : Nat) : List (List Nat) → Nat → Option Nat
  | [], _ => none
  | w :: ws, k => if wIs cc n a w = true then some k else wix cc n a ws (k + 1)
abbrev tkd (cc : Nat → Nat) (a : Nat) : Nat → Nat := fun j => cc (a + j) - 96
theorem tkd_26 {cc : Nat → Nat} {a j : Nat} (h : isS (cc (a + j)) = true) : 1 ≤ tkd cc a j ∧ tkd cc a j ≤ 26 := by
  have := of_decide_eq_true h
  show 1 ≤ cc (a + j) - 96 ∧ cc (a + j) - 96 ≤ 26
  omega
theorem hF_31 {cc : Nat → Nat} {a i : Nat} (h : ∀ j, j < i → isS (cc (a + j)) = true) : hF (tkd cc a) (min i 6) < 387420489 := by
  have h1 := hF_lt (d := tkd cc a) (k := min i 6) (fun j hj => (tkd_26 (h j (by omega))).2)
  have h2 : 27 ^ min i 6 ≤ 27 ^ 6 := Nat.pow_le_pow_right (by decide) (by omega)
  omega
def wok (w : List Nat) : Bool := decide (∀ i, i < w.length → 97 ≤ w.getD i 0 ∧ w.getD i 0 ≤ 122)
abbrev wdd (w : List Nat) : Nat → Nat := fun i => w.getD i 0 - 96
/-- the numbers of a short word and of the letters at a place are alike just where the letters are -/
theorem wIs_h {cc : Nat → Nat} {n a L : Nat} {w : List Nat} (hw : wok w = true) (hL : pwe cc n a = a + L) (hl : ∀ j, j < L → isS (cc (a + j)) = true) : hF (tkd cc a) L = hF (wdd w) w.length ↔ wIs cc n a w = true := by
  have hw' : ∀ i, i < w.length → 97 ≤ w.getD i 0 ∧ w.getD i 0 ≤ 122 := of_decide_eq_true hw
  have hd : ∀ i, i < w.length → 1 ≤ wdd w i ∧ wdd w i ≤ 26 := fun i hi => by
    have := hw' i hi
    show 1 ≤ w.getD i 0 - 96 ∧ w.getD i 0 - 96 ≤ 26
    omega
  have hc : ∀ i, i < L → 97 ≤ cc (a + i) := fun i hi => (of_decide_eq_true (hl i hi)).1
  unfold wIs
  rw [decide_eq_true_iff]
  constructor
  · intro h
    obtain ⟨h1, h2⟩ := hF_inj (fun i hi => tkd_26 (hl i hi)) hd h
    refine ⟨by omega, fun i hi => ?_⟩
    have e : cc (a + i) - 96 = w.getD i 0 - 96 := h2 i (by omega)
    have := hw' i hi
    have := hc i (by omega)
    omega
  · rintro ⟨h1, h2⟩
    have : L = w.length := by omega
    rw [this]
    refine hF_congr (fun i hi => ?_)
    show cc (a + i) - 96 = w.getD i 0 - 96
    rw [h2 i hi]
def sixv (a b c d e f : Int32) : Int32 := if f = 0 then (if e = 0 then (if d = 0 then 27 * (27 * a + b) + c else 27 * (27 * (27 * a + b) + c) + d) else 27 * (if d = 0 then 27 * (27 * a + b) + c else 27 * (27 * (27 * a + b) + c) + d) + e) else 27 * (if e = 0 then (if d = 0 then 27 * (27 * a + b) + c else 27 * (27 * (27 * a + b) + c) + d) else 27 * (if d = 0 then 27 * (27 * a + b) + c else 27 * (27 * (27 * a + b) + c) + d) + e) + f
theorem r_X11_six {g : Gp} {S : Sx} {a b c d e f : Int32} : RT g mX11_six 0 [.int a, .int b, .int c, .int d, .int e, .int f] S (some (.int (sixv a b c d e f))) S := by
  refine RT_ofQ ⟨rfl, rfl⟩ (Nat.le_of_ble_eq_true rfl) (fun sz Q hQ => ?_)
  refine J_bipush (pc := 0) (v := 27) dX11_six_0 (by decide) ?_
  refine J_bipush (pc := 2) (v := 27) dX11_six_2 (by decide) ?_
  refine J_iload_n (pc := 4) dX11_six_4 rfl ?_
  refine J_imul (pc := 5) dX11_six_5 ?_
  refine J_iload_n (pc := 6) dX11_six_6 rfl ?_
  refine J_iadd (pc := 7) dX11_six_7 ?_
  refine J_imul (pc := 8) dX11_six_8 ?_
  refine J_iload_n (pc := 9) dX11_six_9 rfl ?_
  refine J_iadd (pc := 10) dX11_six_10 ?_
  refine J_istore (pc := 11) dX11_six_11 (by decide) rfl ?_
  refine J_mid 29 ((if d = 0 then 27 * (27 * a + b) + c else 27 * (27 * (27 * a + b) + c) + d)) ?_ (fun hj13 => ?_)
  · refine J_istore (pc := 29) dX11_six_29 (by decide) rfl ?_
    refine J_mid 49 ((if e = 0 then (if d = 0 then 27 * (27 * a + b) + c else 27 * (27 * (27 * a + b) + c) + d) else 27 * (if d = 0 then 27 * (27 * a + b) + c else 27 * (27 * (27 * a + b) + c) + d) + e)) ?_ (fun hj31 => ?_)
    · refine J_istore (pc := 49) dX11_six_49 (by decide) rfl ?_
      refine J_mid 69 ((if f = 0 then (if e = 0 then (if d = 0 then 27 * (27 * a + b) + c else 27 * (27 * (27 * a + b) + c) + d) else 27 * (if d = 0 then 27 * (27 * a + b) + c else 27 * (27 * (27 * a + b) + c) + d) + e) else 27 * (if e = 0 then (if d = 0 then 27 * (27 * a + b) + c else 27 * (27 * (27 * a + b) + c) + d) else 27 * (if d = 0 then 27 * (27 * a + b) + c else 27 * (27 * (27 * a + b) + c) + d) + e) + f)) ?_ (fun hj51 => ?_)
      · exact J_iret (pc := 69) rfl rfl rfl dX11_six_69 (rq hQ rfl rfl)
      · refine J_iload (pc := 51) dX11_six_51 rfl ?_
        refine J_if_ne (pc := 53) (tgt := 61) dX11_six_53 (by decide) (fun c53 => ?_) (fun c53 => ?_)
        · refine J_bipush (pc := 61) (v := 27) dX11_six_61 (by decide) ?_
          refine J_iload (pc := 63) dX11_six_63 rfl ?_
          refine J_imul (pc := 65) dX11_six_65 ?_
          refine J_iload (pc := 66) dX11_six_66 rfl ?_
          refine J_iadd (pc := 68) dX11_six_68 ?_
          exact hj51 _ (by first | exact (if_neg c53).symm | exact (if_pos c53).symm)
        · refine J_iload (pc := 56) dX11_six_56 rfl ?_
          refine J_goto (pc := 58) (tgt := 69) dX11_six_58 (by decide) ?_
          exact hj51 _ (by first | exact (if_neg c53).symm | exact (if_pos c53).symm)
    · refine J_iload (pc := 31) dX11_six_31 rfl ?_
      refine J_if_ne (pc := 33) (tgt := 41) dX11_six_33 (by decide) (fun c33 => ?_) (fun c33 => ?_)
      · refine J_bipush (pc := 41) (v := 27) dX11_six_41 (by decide) ?_
        refine J_iload (pc := 43) dX11_six_43 rfl ?_
        refine J_imul (pc := 45) dX11_six_45 ?_
        refine J_iload (pc := 46) dX11_six_46 rfl ?_
        refine J_iadd (pc := 48) dX11_six_48 ?_
        exact hj31 _ (by first | exact (if_neg c33).symm | exact (if_pos c33).symm)
      · refine J_iload (pc := 36) dX11_six_36 rfl ?_
        refine J_goto (pc := 38) (tgt := 49) dX11_six_38 (by decide) ?_
        exact hj31 _ (by first | exact (if_neg c33).symm | exact (if_pos c33).symm)
  · refine J_iload_n (pc := 13) dX11_six_13 rfl ?_
    refine J_if_ne (pc := 14) (tgt := 22) dX11_six_14 (by decide) (fun c14 => ?_) (fun c14 => ?_)
    · refine J_bipush (pc := 22) (v := 27) dX11_six_22 (by decide) ?_
      refine J_iload (pc := 24) dX11_six_24 rfl ?_
      refine J_imul (pc := 26) dX11_six_26 ?_
      refine J_iload_n (pc := 27) dX11_six_27 rfl ?_
      refine J_iadd (pc := 28) dX11_six_28 ?_
      exact hj13 _ (by first | exact (if_neg c14).symm | exact (if_pos c14).symm)
    · refine J_iload (pc := 17) dX11_six_17 rfl ?_
      refine J_goto (pc := 19) (tgt := 29) dX11_six_19 (by decide) ?_
      exact hj13 _ (by first | exact (if_neg c14).symm | exact (if_pos c14).symm)
theorem r_X11_wordHere {g : Gp} {S : Sx} {a b : Nat} {u : Nat × Nat} {n : Nat} {cc : Nat → Nat} (hx : TX S n cc) (ha : a ≤ n) (hb : pbl cc n a = b) : RT g mX11_wordHere 2 [.ref 59] (ps S (a, u)) (some (.int (if pwe cc n b - b ≤ 6 then nI (hF (tkd cc b) (pwe cc n b - b)) else -1))) (ps S (b, u)) := by
  refine RT_ofQ ⟨rfl, rfl⟩ (Nat.le_of_ble_eq_true rfl) (fun sz Q hQ => ?_)
  have hn6 := hx.2.1
  have hbn : b ≤ n := by rw [← hb]; exact pbl_le cc ha
  refine J_aload_n (pc := 0) dX11_wordHere_0 rfl ?_
  refine J_cvv (pc := 1) (N := mX11_blanks) dX11_wordHere_1 ml_X11_125 cf_X11_blanks cv_X11_blanks (r_X11_blanks (S := S) (t := (a, u)) hx ha) rfl rfl (Nat.le_of_ble_eq_true rfl) (by decide) (rv_of (ci := 11) rfl rfl rfl) ?_
  refine J_cg2 (S' := ps S (b, u)) (ps_same (by rw [hb])) ?_
  refine J_iconst (pc := 4) (v := 0) dX11_wordHere_4 (by decide) ?_
  refine J_istore_n (pc := 5) dX11_wordHere_5 (by decide) rfl ?_
  refine J_iconst (pc := 6) (v := 0) dX11_wordHere_6 (by decide) ?_
  refine J_istore_n (pc := 7) dX11_wordHere_7 (by decide) rfl ?_
  show J g mX11_wordHere 2 [] 8 [some (.ref 59), some (.int (nI (hF (tkd cc b) (min 0 6)))), some (.int (nI 0))] [] (hs (ps S (b, u))) sz 0 0 Q
  have loop : ∀ f i, b + i + f = n → (∀ j, j < i → isS (cc (b + j)) = true) → (∀ L, b + L = skp (fun k => isS (cc k)) f (b + i) → (∀ j, j < L → isS (cc (b + j)) = true) → J g mX11_wordHere 2 [] 61 [some (.ref 59), some (.int (nI (hF (tkd cc b) (min L 6)))), some (.int (nI L))] [] (hs (ps S (b, u))) sz 0 0 Q) → J g mX11_wordHere 2 [] 8 [some (.ref 59), some (.int (nI (hF (tkd cc b) (min i 6)))), some (.int (nI i))] [] (hs (ps S (b, u))) sz 0 0 Q := by
    intro f
    induction f with
    | zero =>
      intro i hi hl hq
      refine J_aload_n (pc := 8) dX11_wordHere_8 rfl ?_
      refine J_aload_n (pc := 9) dX11_wordHere_9 rfl ?_
      refine J_geti (pc := 10) dX11_wordHere_10 kc11 fl_X11_112 rfl ?_
      refine J_iload_n (pc := 13) dX11_wordHere_13 rfl ?_
      refine J_iadd (pc := 14) dX11_wordHere_14 ?_
      refine J_t1 (nI_add b i) ?_
      refine J_cvr (pc := 15) (N := mX11_byteAt) dX11_wordHere_15 ml_X11_115 cf_X11_byteAt cv_X11_byteAt (r_X11_byteAt (S := ps S (b, u)) (k := b + i) (n := n) (cc := cc) hx (by omega)) rfl rfl (Nat.le_of_ble_eq_true rfl) (by decide) (rv_of (ci := 11) rfl rfl rfl) ?_
      refine J_csr (pc := 18) (N := mX11_isSmall) dX11_wordHere_18 ml_X11_141 cf_X11_isSmall cs_X11_isSmall (r_X11_isSmall (S := ps S (b, u))) rfl rfl (Nat.le_of_ble_eq_true rfl) (by decide) ?_
      refine J_ifp_eq (pc := 21) (tgt := 61) dX11_wordHere_21 (by decide) (fun c21 => ?_) (fun c21 => absurd c21 (by rw [show b + i = n by omega, hx.2.2.2 n (Nat.le_refl _)]; decide))
      exact hq i rfl hl
    | succ f ih =>
      intro i hi hl hq
      by_cases q : isS (cc (b + i)) = true
      · have q' : 97 ≤ cc (b + i) ∧ cc (b + i) ≤ 122 := of_decide_eq_true q
        have hbv : bv (cc (b + i)) = nI (cc (b + i)) := if_neg (by omega)
        have hb31 := hF_31 hl
        rw [skp_t (P := fun k => isS (cc k)) q] at hq
        refine J_aload_n (pc := 8) dX11_wordHere_8 rfl ?_
        refine J_aload_n (pc := 9) dX11_wordHere_9 rfl ?_
        refine J_geti (pc := 10) dX11_wordHere_10 kc11 fl_X11_112 rfl ?_
        refine J_iload_n (pc := 13) dX11_wordHere_13 rfl ?_
        refine J_iadd (pc := 14) dX11_wordHere_14 ?_
        refine J_t1 (nI_add b i) ?_
        refine J_cvr (pc := 15) (N := mX11_byteAt) dX11_wordHere_15 ml_X11_115 cf_X11_byteAt cv_X11_byteAt (r_X11_byteAt (S := ps S (b, u)) (k := b + i) (n := n) (cc := cc) hx (by omega)) rfl rfl (Nat.le_of_ble_eq_true rfl) (by decide) (rv_of (ci := 11) rfl rfl rfl) ?_
        refine J_csr (pc := 18) (N := mX11_isSmall) dX11_wordHere_18 ml_X11_141 cf_X11_isSmall cs_X11_isSmall (r_X11_isSmall (S := ps S (b, u))) rfl rfl (Nat.le_of_ble_eq_true rfl) (by decide) ?_
        refine J_ifp_eq (pc := 21) (tgt := 61) dX11_wordHere_21 (by decide) (fun c21 => absurd ((bv_S (TX_le hx (b + i))).mpr q) c21) (fun c21 => ?_)
        refine J_mid 54 (nI (hF (tkd cc b) (min (i + 1) 6))) ?_ (fun hj24 => ?_)
        · refine J_istore_n (pc := 54) dX11_wordHere_54 (by decide) rfl ?_
          refine J_iinc (pc := 55) (v := 1) dX11_wordHere_55 rfl (by decide) rfl ?_
          refine J_goto (pc := 58) (tgt := 8) dX11_wordHere_58 (by decide) ?_
          refine J_cg1 (ls' := [some (.ref 59), some (.int (nI (hF (tkd cc b) (min (i + 1) 6)))), some (.int (nI (i + 1)))]) (by rw [← nI_1]; rfl) ?_
          exact ih (i + 1) (by omega) (fun j hj => by by_cases e : j = i; (rw [e]; exact q); exact hl j (by omega)) hq
        · refine J_iload_n (pc := 24) dX11_wordHere_24 rfl ?_
          refine J_bipush (pc := 25) (v := 6) dX11_wordHere_25 (by decide) ?_
          refine J_icmp_ge (pc := 27) (tgt := 53) dX11_wordHere_27 (by decide) (fun c27 => ?_) (fun c27 => ?_)
          · refine J_iload_n (pc := 53) dX11_wordHere_53 rfl ?_
            exact hj24 _ (by first | (have c2 : ¬ 6 ≤ i := fun z => c27 ((nI_leI (a := 6) (by decide) (by omega)).mpr z); rw [hbv, show min (i + 1) 6 = i + 1 by omega]; show nI 27 * nI (hF (tkd cc b) (min i 6)) + nI (cc (b + i)) - nI 97 + nI 1 = nI (27 * hF (tkd cc b) i + (cc (b + i) - 96)); rw [show min i 6 = i by omega, pk_mul, nI_add, pk_sub (by omega), nI_add, show 27 * hF (tkd cc b) i + cc (b + i) - 97 + 1 = 27 * hF (tkd cc b) i + (cc (b + i) - 96) by omega]; done) | (have c2 : 6 ≤ i := (nI_leI (a := 6) (by decide) (by omega)).mp c27; rw [show min (i + 1) 6 = min i 6 by omega]; done))
          · refine J_bipush (pc := 30) (v := 27) dX11_wordHere_30 (by decide) ?_
            refine J_iload_n (pc := 32) dX11_wordHere_32 rfl ?_
            refine J_imul (pc := 33) dX11_wordHere_33 ?_
            refine J_aload_n (pc := 34) dX11_wordHere_34 rfl ?_
            refine J_aload_n (pc := 35) dX11_wordHere_35 rfl ?_
            refine J_geti (pc := 36) dX11_wordHere_36 kc11 fl_X11_112 rfl ?_
            refine J_iload_n (pc := 39) dX11_wordHere_39 rfl ?_
            refine J_iadd (pc := 40) dX11_wordHere_40 ?_
            refine J_t1 (nI_add b i) ?_
            refine J_cvr (pc := 41) (N := mX11_byteAt) dX11_wordHere_41 ml_X11_115 cf_X11_byteAt cv_X11_byteAt (r_X11_byteAt (S := ps S (b, u)) (k := b + i) (n := n) (cc := cc) hx (by omega)) rfl rfl (Nat.le_of_ble_eq_true rfl) (by decide) (rv_of (ci := 11) rfl rfl rfl) ?_
            refine J_iadd (pc := 44) dX11_wordHere_44 ?_
            refine J_bipush (pc := 45) (v := 97) dX11_wordHere_45 (by decide) ?_
            refine J_isub (pc := 47) dX11_wordHere_47 ?_
            refine J_iconst (pc := 48) (v := 1) dX11_wordHere_48 (by decide) ?_
            refine J_iadd (pc := 49) dX11_wordHere_49 ?_
            refine J_goto (pc := 50) (tgt := 54) dX11_wordHere_50 (by decide) ?_
            exact hj24 _ (by first | (have c2 : ¬ 6 ≤ i := fun z => c27 ((nI_leI (a := 6) (by decide) (by omega)).mpr z); rw [hbv, show min (i + 1) 6 = i + 1 by omega]; show nI 27 * nI (hF (tkd cc b) (min i 6)) + nI (cc (b + i)) - nI 97 + nI 1 = nI (27 * hF (tkd cc b) i + (cc (b + i) - 96)); rw [show min i 6 = i by omega, pk_mul, nI_add, pk_sub (by omega), nI_add, show 27 * hF (tkd cc b) i + cc (b + i) - 97 + 1 = 27 * hF (tkd cc b) i + (cc (b + i) - 96) by omega]; done) | (have c2 : 6 ≤ i := (nI_leI (a := 6) (by decide) (by omega)).mp c27; rw [show min (i + 1) 6 = min i 6 by omega]; done))
      · rw [skp_f (P := fun k => isS (cc k)) q] at hq
        refine J_aload_n (pc := 8) dX11_wordHere_8 rfl ?_
        refine J_aload_n (pc := 9) dX11_wordHere_9 rfl ?_
        refine J_geti (pc := 10) dX11_wordHere_10 kc11 fl_X11_112 rfl ?_
        refine J_iload_n (pc := 13) dX11_wordHere_13 rfl ?_
        refine J_iadd (pc := 14) dX11_wordHere_14 ?_
        refine J_t1 (nI_add b i) ?_
        refine J_cvr (pc := 15) (N := mX11_byteAt) dX11_wordHere_15 ml_X11_115 cf_X11_byteAt cv_X11_byteAt (r_X11_byteAt (S := ps S (b, u)) (k := b + i) (n := n) (cc := cc) hx (by omega)) rfl rfl (Nat.le_of_ble_eq_true rfl) (by decide) (rv_of (ci := 11) rfl rfl rfl) ?_
        refine J_csr (pc := 18) (N := mX11_isSmall) dX11_wordHere_18 ml_X11_141 cf_X11_isSmall cs_X11_isSmall (r_X11_isSmall (S := ps S (b, u))) rfl rfl (Nat.le_of_ble_eq_true rfl) (by decide) ?_
        refine J_ifp_eq (pc := 21) (tgt := 61) dX11_wordHere_21 (by decide) (fun c21 => ?_) (fun c21 => absurd c21 (fun z => q ((bv_S (TX_le hx (b + i))).mp z)))
        exact hq i rfl hl
  refine loop (n - b) 0 (by omega) (fun j hj => absurd hj (Nat.not_lt_zero j)) (fun L hL hl => ?_)
  have hpw : pwe cc n b = b + L := hL.symm
  clear loop
  rw [hpw, Nat.add_sub_cancel_left] at hQ
  have hL6 : L ≤ 600 := by have := pwe_le cc hbn; omega
  refine J_mid 72 (if L ≤ 6 then nI (hF (tkd cc b) L) else -1) ?_ (fun hj61 => ?_)
  · exact J_iret (pc := 72) rfl rfl rfl dX11_wordHere_72 (rq hQ rfl rfl)
  · refine J_iload_n (pc := 61) dX11_wordHere_61 rfl ?_
    refine J_bipush (pc := 62) (v := 6) dX11_wordHere_62 (by decide) ?_
    refine J_icmp_le (pc := 64) (tgt := 71) dX11_wordHere_64 (by decide) (fun c64 => ?_) (fun c64 => ?_)
    · refine J_iload_n (pc := 71) dX11_wordHere_71 rfl ?_
      exact hj61 _ (by first | (have c2 := (nI_leI (b := 6) (by omega) (by decide)).mp c64; rw [if_pos c2, show min L 6 = L by omega]; done) | (rw [if_neg (fun z => c64 ((nI_leI (b := 6) (by omega) (by decide)).mpr z))]; done))
    · refine J_iconst (pc := 67) (v := -1) dX11_wordHere_67 (by decide) ?_
      refine J_goto (pc := 68) (tgt := 72) dX11_wordHere_68 (by decide) ?_
      exact hj61 _ (by first | (have c2 := (nI_leI (b := 6) (by omega) (by decide)).mp c64; rw [if_pos c2, show min L 6 = L by omega]; done) | (rw [if_neg (fun z => c64 ((nI_leI (b := 6) (by omega) (by decide)).mpr z))]; done))
theorem r_X11_isWord {g : Gp} {S : Sx} {a b h : Nat} {y : Bool} {w : List Nat} {x1 x2 x3 x4 x5 x6 : Int32} {n : Nat} {cc : Nat → Nat} (hx : TX S n cc) (ha : a ≤ n) (hb : pbl cc n a = b) (hw : wok w = true) (h6 : w.length ≤ 6) (hs6 : sixv x1 x2 x3 x4 x5 x6 = nI (hF (wdd w) w.length)) (hy : wIs cc n b w = y) : RT g mX11_isWord 3 [.ref 59, .int x1, .int x2, .int x3, .int x4, .int x5, .int x6] (ps S (a, 0, h)) (some (.int (bI y))) (ps S (b, 0, h)) := by
  refine RT_ofQ ⟨rfl, rfl⟩ (Nat.le_of_ble_eq_true rfl) (fun sz Q hQ => ?_)
  have hn6 := hx.2.1
  have hbn : b ≤ n := by rw [← hb]; exact pbl_le cc ha
  have hL : ∃ L, pwe cc n b = b + L := ⟨pwe cc n b - b, by have := pwe_ge cc n b; omega⟩
  obtain ⟨L, hL⟩ := hL
  have hl : ∀ j, j < L → isS (cc (b + j)) = true := fun j hj => skp_in (P := fun k => isS (cc k)) (f := n - b) (a := b) (by omega) (by show b + j < pwe cc n b; omega)
  have hlt := hF_lt (d := wdd w) (k := w.length) (fun i hi => by have := (of_decide_eq_true hw : ∀ i, i < w.length → 97 ≤ w.getD i 0 ∧ w.getD i 0 ≤ 122) i hi; show w.getD i 0 - 96 ≤ 26; omega)
  have hle : 27 ^ w.length ≤ 27 ^ 6 := Nat.pow_le_pow_right (by decide) h6
  have hkey : ((if pwe cc n b - b ≤ 6 then nI (hF (tkd cc b) (pwe cc n b - b)) else -1) = sixv x1 x2 x3 x4 x5 x6) ↔ wIs cc n b w = true := by
    rw [hs6, hL, Nat.add_sub_cancel_left, ← wIs_h hw hL hl]
    by_cases q : L ≤ 6
    · have h31 := hF_31 hl
      rw [show min L 6 = L by omega] at h31
      rw [if_pos q, nI_eq (by omega) (by omega)]
    · rw [if_neg q]
      refine ⟨fun z => absurd z.symm (nI_nm (by omega)), fun z => ?_⟩
      have := (wIs_h hw hL hl).mp z
      have := (of_decide_eq_true this).1
      omega
  refine J_aload_n (pc := 0) dX11_isWord_0 rfl ?_
  refine J_geti (pc := 1) dX11_isWord_1 kc11 fl_X11_119 rfl ?_
  refine J_if_ne (pc := 4) (tgt := 30) dX11_isWord_4 (by decide) (fun c4 => absurd (show nI 0 = 0 from rfl) c4) (fun c4 => ?_)
  refine J_aload_n (pc := 7) dX11_isWord_7 rfl ?_
  refine J_cvr (pc := 8) (N := mX11_wordHere) dX11_isWord_8 ml_X11_144 cf_X11_wordHere cv_X11_wordHere (r_X11_wordHere (S := S) (u := (0, h)) hx ha hb) rfl rfl (Nat.le_of_ble_eq_true rfl) (by decide) (rv_of (ci := 11) rfl rfl rfl) ?_
  refine J_iload_n (pc := 11) dX11_isWord_11 rfl ?_
  refine J_iload_n (pc := 12) dX11_isWord_12 rfl ?_
  refine J_iload_n (pc := 13) dX11_isWord_13 rfl ?_
  refine J_iload (pc := 14) dX11_isWord_14 rfl ?_
  refine J_iload (pc := 16) dX11_isWord_16 rfl ?_
  refine J_iload (pc := 18) dX11_isWord_18 rfl ?_
  refine J_csr (pc := 20) (N := mX11_six) dX11_isWord_20 ml_X11_148 cf_X11_six cs_X11_six (r_X11_six (S := ps S (b, 0, h))) rfl rfl (Nat.le_of_ble_eq_true rfl) (by decide) ?_
  refine J_icmp_ne (pc := 23) (tgt := 30) dX11_isWord_23 (by decide) (fun c23 => ?_) (fun c23 => ?_)
  · refine J_iconst (pc := 30) (v := 0) dX11_isWord_30 (by decide) ?_
    exact J_iret (pc := 31) rfl rfl rfl dX11_isWord_31 (rq hQ (by cases y; (first | rfl | exact absurd (hkey.mp c23) (by rw [hy]; decide)); (first | rfl | exact absurd (hkey.mpr hy) c23)) rfl)
  · refine J_iconst (pc := 26) (v := 1) dX11_isWord_26 (by decide) ?_
    refine J_goto (pc := 27) (tgt := 31) dX11_isWord_27 (by decide) ?_
    exact J_iret (pc := 31) rfl rfl rfl dX11_isWord_31 (rq hQ (by cases y; (first | rfl | exact absurd (hkey.mp c23) (by rw [hy]; decide)); (first | rfl | exact absurd (hkey.mpr hy) c23)) rfl)
theorem r_X11_takes {g : Gp} {S : Sx} {a b h : Nat} {y : Bool} {w : List Nat} {x1 x2 x3 x4 x5 x6 : Int32} {n : Nat} {cc : Nat → Nat} (hx : TX S n cc) (ha : a ≤ n) (hb : pbl cc n a = b) (hw : wok w = true) (h6 : w.length ≤ 6) (hs6 : sixv x1 x2 x3 x4 x5 x6 = nI (hF (wdd w) w.length)) (hy : wIs cc n b w = y) : RT g mX11_takes 4 [.ref 59, .int x1, .int x2, .int x3, .int x4, .int x5, .int x6] (ps S (a, 0, h)) (some (.int (bI y))) (ps S ((if y = true then pwe cc n b else b), 0, h)) := by
  refine RT_ofQ ⟨rfl, rfl⟩ (Nat.le_of_ble_eq_true rfl) (fun sz Q hQ => ?_)
  have hn6 := hx.2.1
  have hbn : b ≤ n := by rw [← hb]; exact pbl_le cc ha
  cases y
  · refine J_aload_n (pc := 0) dX11_takes_0 rfl ?_
    refine J_iload_n (pc := 1) dX11_takes_1 rfl ?_
    refine J_iload_n (pc := 2) dX11_takes_2 rfl ?_
    refine J_iload_n (pc := 3) dX11_takes_3 rfl ?_
    refine J_iload (pc := 4) dX11_takes_4 rfl ?_
    refine J_iload (pc := 6) dX11_takes_6 rfl ?_
    refine J_iload (pc := 8) dX11_takes_8 rfl ?_
    refine J_cvr (pc := 10) (N := mX11_isWord) dX11_takes_10 ml_X11_152 cf_X11_isWord cv_X11_isWord (r_X11_isWord (S := S) (y := false) hx ha hb hw h6 hs6 hy) rfl rfl (Nat.le_of_ble_eq_true rfl) (by decide) (rv_of (ci := 11) rfl rfl rfl) ?_
    refine J_istore (pc := 13) dX11_takes_13 (by decide) rfl ?_
    refine J_iload (pc := 15) dX11_takes_15 rfl ?_
    refine J_if_eq (pc := 17) (tgt := 24) dX11_takes_17 (by decide) (fun c17 => ?_) (fun c17 => absurd (show bI false = 0 from rfl) c17)
    refine J_iload (pc := 24) dX11_takes_24 rfl ?_
    exact J_iret (pc := 26) rfl rfl rfl dX11_takes_26 (rq hQ rfl rfl)
  · refine J_aload_n (pc := 0) dX11_takes_0 rfl ?_
    refine J_iload_n (pc := 1) dX11_takes_1 rfl ?_
    refine J_iload_n (pc := 2) dX11_takes_2 rfl ?_
    refine J_iload_n (pc := 3) dX11_takes_3 rfl ?_
    refine J_iload (pc := 4) dX11_takes_4 rfl ?_
    refine J_iload (pc := 6) dX11_takes_6 rfl ?_
    refine J_iload (pc := 8) dX11_takes_8 rfl ?_
    refine J_cvr (pc := 10) (N := mX11_isWord) dX11_takes_10 ml_X11_152 cf_X11_isWord cv_X11_isWord (r_X11_isWord (S := S) (y := true) hx ha hb hw h6 hs6 hy) rfl rfl (Nat.le_of_ble_eq_true rfl) (by decide) (rv_of (ci := 11) rfl rfl rfl) ?_
    refine J_istore (pc := 13) dX11_takes_13 (by decide) rfl ?_
    refine J_iload (pc := 15) dX11_takes_15 rfl ?_
    refine J_if_eq (pc := 17) (tgt := 24) dX11_takes_17 (by decide) (fun c17 => absurd c17 (show ¬ bI true = 0 by decide)) (fun c17 => ?_)
    refine J_aload_n (pc := 20) dX11_takes_20 rfl ?_
    refine J_cvv (pc := 21) (N := mX11_skipWord) dX11_takes_21 ml_X11_156 cf_X11_skipWord cv_X11_skipWord (r_X11_skipWord (S := S) (t := (b, 0, h)) hx hbn) rfl rfl (Nat.le_of_ble_eq_true rfl) (by decide) (rv_of (ci := 11) rfl rfl rfl) ?_
    refine J_iload (pc := 24) dX11_takes_24 rfl ?_
    exact J_iret (pc := 26) rfl rfl rfl dX11_takes_26 (rq hQ rfl rfl)
theorem r_X11_isPilgrim {g : Gp} {S : Sx} {a b h : Nat} {y : Bool} {n : Nat} {cc : Nat → Nat} (hx : TX S n cc) (ha : a ≤ n) (hb : pbl cc n a = b) (hy : wIs cc n b [112, 105, 108, 103, 114, 105, 109] = y) : RT g mX11_isPilgrim 3 [.ref 59] (ps S (a, 0, h)) (some (.int (bI y))) (ps S (b, 0, h)) := by
  refine RT_ofQ ⟨rfl, rfl⟩ (Nat.le_of_ble_eq_true rfl) (fun sz Q hQ => ?_)
  have hn6 := hx.2.1
  have hbn : b ≤ n := by rw [← hb]; exact pbl_le cc ha
  obtain ⟨u, hu⟩ : ∃ u : Nat × Nat, u = (0, h) := ⟨_, rfl⟩
  refine J_aload_n (pc := 0) dX11_isPilgrim_0 rfl ?_
  refine J_cvv (pc := 1) (N := mX11_blanks) dX11_isPilgrim_1 ml_X11_125 cf_X11_blanks cv_X11_blanks (r_X11_blanks (S := S) (t := (a, 0, h)) hx ha) rfl rfl (Nat.le_of_ble_eq_true rfl) (by decide) (rv_of (ci := 11) rfl rfl rfl) ?_
  refine J_cg2 (S' := ps S (b, u)) (ps_same (by rw [hb, hu])) ?_
  refine J_iconst (pc := 4) (v := 0) dX11_isPilgrim_4 (by decide) ?_
  refine J_istore_n (pc := 5) dX11_isPilgrim_5 (by decide) rfl ?_
  refine J_iconst (pc := 6) (v := 0) dX11_isPilgrim_6 (by decide) ?_
  refine J_istore_n (pc := 7) dX11_isPilgrim_7 (by decide) rfl ?_
  show J g mX11_isPilgrim 3 [] 8 [some (.ref 59), some (.int (nI (hF (tkd cc b) (min 0 6)))), some (.int (nI 0))] [] (hs (ps S (b, u))) sz 0 0 Q
  have loop : ∀ f i, b + i + f = n → (∀ j, j < i → isS (cc (b + j)) = true) → (∀ L, b + L = skp (fun k => isS (cc k)) f (b + i) → (∀ j, j < L → isS (cc (b + j)) = true) → J g mX11_isPilgrim 3 [] 61 [some (.ref 59), some (.int (nI (hF (tkd cc b) (min L 6)))), some (.int (nI L))] [] (hs (ps S (b, u))) sz 0 0 Q) → J g mX11_isPilgrim 3 [] 8 [some (.ref 59), some (.int (nI (hF (tkd cc b) (min i 6)))), some (.int (nI i))] [] (hs (ps S (b, u))) sz 0 0 Q := by
    intro f
    induction f with
    | zero =>
      intro i hi hl hq
      refine J_aload_n (pc := 8) dX11_isPilgrim_8 rfl ?_
      refine J_aload_n (pc := 9) dX11_isPilgrim_9 rfl ?_
      refine J_geti (pc := 10) dX11_isPilgrim_10 kc11 fl_X11_112 rfl ?_
      refine J_iload_n (pc := 13) dX11_isPilgrim_13 rfl ?_
      refine J_iadd (pc := 14) dX11_isPilgrim_14 ?_
      refine J_t1 (nI_add b i) ?_
      refine J_cvr (pc := 15) (N := mX11_byteAt) dX11_isPilgrim_15 ml_X11_115 cf_X11_byteAt cv_X11_byteAt (r_X11_byteAt (S := ps S (b, u)) (k := b + i) (n := n) (cc := cc) hx (by omega)) rfl rfl (Nat.le_of_ble_eq_true rfl) (by decide) (rv_of (ci := 11) rfl rfl rfl) ?_
      refine J_csr (pc := 18) (N := mX11_isSmall) dX11_isPilgrim_18 ml_X11_141 cf_X11_isSmall cs_X11_isSmall (r_X11_isSmall (S := ps S (b, u))) rfl rfl (Nat.le_of_ble_eq_true rfl) (by decide) ?_
      refine J_ifp_eq (pc := 21) (tgt := 61) dX11_isPilgrim_21 (by decide) (fun c21 => ?_) (fun c21 => absurd c21 (by rw [show b + i = n by omega, hx.2.2.2 n (Nat.le_refl _)]; decide))
      exact hq i rfl hl
    | succ f ih =>
      intro i hi hl hq
      by_cases q : isS (cc (b + i)) = true
      · have q' : 97 ≤ cc (b + i) ∧ cc (b + i) ≤ 122 := of_decide_eq_true q
        have hbv : bv (cc (b + i)) = nI (cc (b + i)) := if_neg (by omega)
        have hb31 := hF_31 hl
        rw [skp_t (P := fun k => isS (cc k)) q] at hq
        refine J_aload_n (pc := 8) dX11_isPilgrim_8 rfl ?_
        refine J_aload_n (pc := 9) dX11_isPilgrim_9 rfl ?_
        refine J_geti (pc := 10) dX11_isPilgrim_10 kc11 fl_X11_112 rfl ?_
        refine J_iload_n (pc := 13) dX11_isPilgrim_13 rfl ?_
        refine J_iadd (pc := 14) dX11_isPilgrim_14 ?_
        refine J_t1 (nI_add b i) ?_
        refine J_cvr (pc := 15) (N := mX11_byteAt) dX11_isPilgrim_15 ml_X11_115 cf_X11_byteAt cv_X11_byteAt (r_X11_byteAt (S := ps S (b, u)) (k := b + i) (n := n) (cc := cc) hx (by omega)) rfl rfl (Nat.le_of_ble_eq_true rfl) (by decide) (rv_of (ci := 11) rfl rfl rfl) ?_
        refine J_csr (pc := 18) (N := mX11_isSmall) dX11_isPilgrim_18 ml_X11_141 cf_X11_isSmall cs_X11_isSmall (r_X11_isSmall (S := ps S (b, u))) rfl rfl (Nat.le_of_ble_eq_true rfl) (by decide) ?_
        refine J_ifp_eq (pc := 21) (tgt := 61) dX11_isPilgrim_21 (by decide) (fun c21 => absurd ((bv_S (TX_le hx (b + i))).mpr q) c21) (fun c21 => ?_)
        refine J_mid 54 (nI (hF (tkd cc b) (min (i + 1) 6))) ?_ (fun hj24 => ?_)
        · refine J_istore_n (pc := 54) dX11_isPilgrim_54 (by decide) rfl ?_
          refine J_iinc (pc := 55) (v := 1) dX11_isPilgrim_55 rfl (by decide) rfl ?_
          refine J_goto (pc := 58) (tgt := 8) dX11_isPilgrim_58 (by decide) ?_
          refine J_cg1 (ls' := [some (.ref 59), some (.int (nI (hF (tkd cc b) (min (i + 1) 6)))), some (.int (nI (i + 1)))]) (by rw [← nI_1]; rfl) ?_
          exact ih (i + 1) (by omega) (fun j hj => by by_cases e : j = i; (rw [e]; exact q); exact hl j (by omega)) hq
        · refine J_iload_n (pc := 24) dX11_isPilgrim_24 rfl ?_
          refine J_bipush (pc := 25) (v := 6) dX11_isPilgrim_25 (by decide) ?_
          refine J_icmp_ge (pc := 27) (tgt := 53) dX11_isPilgrim_27 (by decide) (fun c27 => ?_) (fun c27 => ?_)
          · refine J_iload_n (pc := 53) dX11_isPilgrim_53 rfl ?_
            exact hj24 _ (by first | (have c2 : ¬ 6 ≤ i := fun z => c27 ((nI_leI (a := 6) (by decide) (by omega)).mpr z); rw [hbv, show min (i + 1) 6 = i + 1 by omega]; show nI 27 * nI (hF (tkd cc b) (min i 6)) + nI (cc (b + i)) - nI 97 + nI 1 = nI (27 * hF (tkd cc b) i + (cc (b + i) - 96)); rw [show min i 6 = i by omega, pk_mul, nI_add, pk_sub (by omega), nI_add, show 27 * hF (tkd cc b) i + cc (b + i) - 97 + 1 = 27 * hF (tkd cc b) i + (cc (b + i) - 96) by omega]; done) | (have c2 : 6 ≤ i := (nI_leI (a := 6) (by decide) (by omega)).mp c27; rw [show min (i + 1) 6 = min i 6 by omega]; done))
          · refine J_bipush (pc := 30) (v := 27) dX11_isPilgrim_30 (by decide) ?_
            refine J_iload_n (pc := 32) dX11_isPilgrim_32 rfl ?_
            refine J_imul (pc := 33) dX11_isPilgrim_33 ?_
            refine J_aload_n (pc := 34) dX11_isPilgrim_34 rfl ?_
            refine J_aload_n (pc := 35) dX11_isPilgrim_35 rfl ?_
            refine J_geti (pc := 36) dX11_isPilgrim_36 kc11 fl_X11_112 rfl ?_
            refine J_iload_n (pc := 39) dX11_isPilgrim_39 rfl ?_
            refine J_iadd (pc := 40) dX11_isPilgrim_40 ?_
            refine J_t1 (nI_add b i) ?_
            refine J_cvr (pc := 41) (N := mX11_byteAt) dX11_isPilgrim_41 ml_X11_115 cf_X11_byteAt cv_X11_byteAt (r_X11_byteAt (S := ps S (b, u)) (k := b + i) (n := n) (cc := cc) hx (by omega)) rfl rfl (Nat.le_of_ble_eq_true rfl) (by decide) (rv_of (ci := 11) rfl rfl rfl) ?_
            refine J_iadd (pc := 44) dX11_isPilgrim_44 ?_
            refine J_bipush (pc := 45) (v := 97) dX11_isPilgrim_45 (by decide) ?_
            refine J_isub (pc := 47) dX11_isPilgrim_47 ?_
            refine J_iconst (pc := 48) (v := 1) dX11_isPilgrim_48 (by decide) ?_
            refine J_iadd (pc := 49) dX11_isPilgrim_49 ?_
            refine J_goto (pc := 50) (tgt := 54) dX11_isPilgrim_50 (by decide) ?_
            exact hj24 _ (by first | (have c2 : ¬ 6 ≤ i := fun z => c27 ((nI_leI (a := 6) (by decide) (by omega)).mpr z); rw [hbv, show min (i + 1) 6 = i + 1 by omega]; show nI 27 * nI (hF (tkd cc b) (min i 6)) + nI (cc (b + i)) - nI 97 + nI 1 = nI (27 * hF (tkd cc b) i + (cc (b + i) - 96)); rw [show min i 6 = i by omega, pk_mul, nI_add, pk_sub (by omega), nI_add, show 27 * hF (tkd cc b) i + cc (b + i) - 97 + 1 = 27 * hF (tkd cc b) i + (cc (b + i) - 96) by omega]; done) | (have c2 : 6 ≤ i := (nI_leI (a := 6) (by decide) (by omega)).mp c27; rw [show min (i + 1) 6 = min i 6 by omega]; done))
      · rw [skp_f (P := fun k => isS (cc k)) q] at hq
        refine J_aload_n (pc := 8) dX11_isPilgrim_8 rfl ?_
        refine J_aload_n (pc := 9) dX11_isPilgrim_9 rfl ?_
        refine J_geti (pc := 10) dX11_isPilgrim_10 kc11 fl_X11_112 rfl ?_
        refine J_iload_n (pc := 13) dX11_isPilgrim_13 rfl ?_
        refine J_iadd (pc := 14) dX11_isPilgrim_14 ?_
        refine J_t1 (nI_add b i) ?_
        refine J_cvr (pc := 15) (N := mX11_byteAt) dX11_isPilgrim_15 ml_X11_115 cf_X11_byteAt cv_X11_byteAt (r_X11_byteAt (S := ps S (b, u)) (k := b + i) (n := n) (cc := cc) hx (by omega)) rfl rfl (Nat.le_of_ble_eq_true rfl) (by decide) (rv_of (ci := 11) rfl rfl rfl) ?_
        refine J_csr (pc := 18) (N := mX11_isSmall) dX11_isPilgrim_18 ml_X11_141 cf_X11_isSmall cs_X11_isSmall (r_X11_isSmall (S := ps S (b, u))) rfl rfl (Nat.le_of_ble_eq_true rfl) (by decide) ?_
        refine J_ifp_eq (pc := 21) (tgt := 61) dX11_isPilgrim_21 (by decide) (fun c21 => ?_) (fun c21 => absurd c21 (fun z => q ((bv_S (TX_le hx (b + i))).mp z)))
        exact hq i rfl hl
  refine loop (n - b) 0 (by omega) (fun j hj => absurd hj (Nat.not_lt_zero j)) (fun L hL hl => ?_)
  have hpw : pwe cc n b = b + L := hL.symm
  clear loop
  have hkey : (L = 7 ∧ hF (tkd cc b) (min L 6) = hF (wdd [112, 105, 108, 103, 114, 105]) 6 ∧ cc (b + 6) = 109) ↔ wIs cc n b [112, 105, 108, 103, 114, 105, 109] = true := by
    have e6 : ∀ i, i < 6 → ([112, 105, 108, 103, 114, 105] : List Nat).getD i 0 = ([112, 105, 108, 103, 114, 105, 109] : List Nat).getD i 0 := by decide
    have w6 : ∀ i, i < 6 → 97 ≤ ([112, 105, 108, 103, 114, 105] : List Nat).getD i 0 ∧ ([112, 105, 108, 103, 114, 105] : List Nat).getD i 0 ≤ 122 := by decide
    unfold wIs
    rw [decide_eq_true_iff, hpw]
    constructor
    · rintro ⟨h1, h2, h3⟩
      rw [h1] at h2
      obtain ⟨_, h4⟩ := hF_inj (k := 6) (k' := 6) (fun i hi => tkd_26 (hl i (by omega))) (fun i hi => by have := w6 i hi; show 1 ≤ ([112, 105, 108, 103, 114, 105] : List Nat).getD i 0 - 96 ∧ ([112, 105, 108, 103, 114, 105] : List Nat).getD i 0 - 96 ≤ 26; omega) h2
      refine ⟨by rw [h1]; rfl, fun i hi => ?_⟩
      by_cases e : i = 6
      · rw [e, h3]; rfl
      · have hi : i < 7 := hi
        have e2 : cc (b + i) - 96 = ([112, 105, 108, 103, 114, 105] : List Nat).getD i 0 - 96 := h4 i (by omega)
        have e3 := w6 i (by omega)
        have e4 : 97 ≤ cc (b + i) := (of_decide_eq_true (hl i (by omega))).1
        rw [← e6 i (by omega)]
        omega
    · rintro ⟨h1, h2⟩
      have h1 : b + L = b + 7 := h1
      have : L = 7 := by omega
      refine ⟨this, ?_, h2 6 (by decide)⟩
      rw [this]
      refine hF_congr (fun i hi => ?_)
      have hi : i < 6 := hi
      show cc (b + i) - 96 = ([112, 105, 108, 103, 114, 105] : List Nat).getD i 0 - 96
      rw [h2 i (by show i < 7; omega), e6 i hi]
  have hL6 : L ≤ 600 := by have := pwe_le cc hbn; omega
  have h31 := hF_31 hl
  cases y
  · refine J_iload_n (pc := 61) dX11_isPilgrim_61 rfl ?_
    refine J_bipush (pc := 62) (v := 7) dX11_isPilgrim_62 (by decide) ?_
    refine J_icmp_ne (pc := 64) (tgt := 106) dX11_isPilgrim_64 (by decide) (fun c64 => ?_) (fun c64 => ?_)
    · refine J_iconst (pc := 106) (v := 0) dX11_isPilgrim_106 (by decide) ?_
      exact J_iret (pc := 107) rfl rfl rfl dX11_isPilgrim_107 (rq hQ rfl (ps_same (by rw [hu])))
    · refine J_iload_n (pc := 67) dX11_isPilgrim_67 rfl ?_
      refine J_bipush (pc := 68) (v := 16) dX11_isPilgrim_68 (by decide) ?_
      refine J_bipush (pc := 70) (v := 9) dX11_isPilgrim_70 (by decide) ?_
      refine J_bipush (pc := 72) (v := 12) dX11_isPilgrim_72 (by decide) ?_
      refine J_bipush (pc := 74) (v := 7) dX11_isPilgrim_74 (by decide) ?_
      refine J_bipush (pc := 76) (v := 18) dX11_isPilgrim_76 (by decide) ?_
      refine J_bipush (pc := 78) (v := 9) dX11_isPilgrim_78 (by decide) ?_
      refine J_csr (pc := 80) (N := mX11_six) dX11_isPilgrim_80 ml_X11_148 cf_X11_six cs_X11_six (r_X11_six (S := ps S (b, u))) rfl rfl (Nat.le_of_ble_eq_true rfl) (by decide) ?_
      refine J_icmp_ne (pc := 83) (tgt := 106) dX11_isPilgrim_83 (by decide) (fun c83 => ?_) (fun c83 => ?_)
      · refine J_iconst (pc := 106) (v := 0) dX11_isPilgrim_106 (by decide) ?_
        exact J_iret (pc := 107) rfl rfl rfl dX11_isPilgrim_107 (rq hQ rfl (ps_same (by rw [hu])))
      · refine J_aload_n (pc := 86) dX11_isPilgrim_86 rfl ?_
        refine J_aload_n (pc := 87) dX11_isPilgrim_87 rfl ?_
        refine J_geti (pc := 88) dX11_isPilgrim_88 kc11 fl_X11_112 rfl ?_
        refine J_bipush (pc := 91) (v := 6) dX11_isPilgrim_91 (by decide) ?_
        refine J_iadd (pc := 93) dX11_isPilgrim_93 ?_
        refine J_t1 (nI_add b 6) ?_
        refine J_cvr (pc := 94) (N := mX11_byteAt) dX11_isPilgrim_94 ml_X11_115 cf_X11_byteAt cv_X11_byteAt (r_X11_byteAt (S := ps S (b, u)) (k := b + 6) (n := n) (cc := cc) hx (by omega)) rfl rfl (Nat.le_of_ble_eq_true rfl) (by decide) (rv_of (ci := 11) rfl rfl rfl) ?_
        refine J_bipush (pc := 97) (v := 109) dX11_isPilgrim_97 (by decide) ?_
        refine J_icmp_ne (pc := 99) (tgt := 106) dX11_isPilgrim_99 (by decide) (fun c99 => ?_) (fun c99 => absurd (show False from by have := hkey.mp ⟨(nI_eq (b := 7) (by omega) (by decide)).mp c64, (nI_eq (by omega) (by decide)).mp c83, (bv_eq (d := 109) (TX_le hx (b + 6)) (by decide)).mp c99⟩; rw [hy] at this; cases this) (fun z => z))
        refine J_iconst (pc := 106) (v := 0) dX11_isPilgrim_106 (by decide) ?_
        exact J_iret (pc := 107) rfl rfl rfl dX11_isPilgrim_107 (rq hQ rfl (ps_same (by rw [hu])))
  · obtain ⟨k1, k2, k3⟩ := hkey.mpr hy
    refine J_iload_n (pc := 61) dX11_isPilgrim_61 rfl ?_
    refine J_bipush (pc := 62) (v := 7) dX11_isPilgrim_62 (by decide) ?_
    refine J_icmp_ne (pc := 64) (tgt := 106) dX11_isPilgrim_64 (by decide) (fun c64 => absurd (by rw [k1]; rfl) c64) (fun c64 => ?_)
    refine J_iload_n (pc := 67) dX11_isPilgrim_67 rfl ?_
    refine J_bipush (pc := 68) (v := 16) dX11_isPilgrim_68 (by decide) ?_
    refine J_bipush (pc := 70) (v := 9) dX11_isPilgrim_70 (by decide) ?_
    refine J_bipush (pc := 72) (v := 12) dX11_isPilgrim_72 (by decide) ?_
    refine J_bipush (pc := 74) (v := 7) dX11_isPilgrim_74 (by decide) ?_
    refine J_bipush (pc := 76) (v := 18) dX11_isPilgrim_76 (by decide) ?_
    refine J_bipush (pc := 78) (v := 9) dX11_isPilgrim_78 (by decide) ?_
    refine J_csr (pc := 80) (N := mX11_six) dX11_isPilgrim_80 ml_X11_148 cf_X11_six cs_X11_six (r_X11_six (S := ps S (b, u))) rfl rfl (Nat.le_of_ble_eq_true rfl) (by decide) ?_
    refine J_icmp_ne (pc := 83) (tgt := 106) dX11_isPilgrim_83 (by decide) (fun c83 => absurd (show nI (hF (tkd cc b) (min L 6)) = _ by rw [k2]; decide +kernel) c83) (fun c83 => ?_)
    refine J_aload_n (pc := 86) dX11_isPilgrim_86 rfl ?_
    refine J_aload_n (pc := 87) dX11_isPilgrim_87 rfl ?_
    refine J_geti (pc := 88) dX11_isPilgrim_88 kc11 fl_X11_112 rfl ?_
    refine J_bipush (pc := 91) (v := 6) dX11_isPilgrim_91 (by decide) ?_
    refine J_iadd (pc := 93) dX11_isPilgrim_93 ?_
    refine J_t1 (nI_add b 6) ?_
    refine J_cvr (pc := 94) (N := mX11_byteAt) dX11_isPilgrim_94 ml_X11_115 cf_X11_byteAt cv_X11_byteAt (r_X11_byteAt (S := ps S (b, u)) (k := b + 6) (n := n) (cc := cc) hx (by omega)) rfl rfl (Nat.le_of_ble_eq_true rfl) (by decide) (rv_of (ci := 11) rfl rfl rfl) ?_
    refine J_bipush (pc := 97) (v := 109) dX11_isPilgrim_97 (by decide) ?_
    refine J_icmp_ne (pc := 99) (tgt := 106) dX11_isPilgrim_99 (by decide) (fun c99 => absurd ((bv_eq (d := 109) (TX_le hx (b + 6)) (by decide)).mpr k3) c99) (fun c99 => ?_)
    refine J_iconst (pc := 102) (v := 1) dX11_isPilgrim_102 (by decide) ?_
    refine J_goto (pc := 103) (tgt := 107) dX11_isPilgrim_103 (by decide) ?_
    exact J_iret (pc := 107) rfl rfl rfl dX11_isPilgrim_107 (rq hQ rfl (ps_same (by rw [hu])))
theorem r_X11_isTempted {g : Gp} {S : Sx} {a b h : Nat} {y : Bool} {n : Nat} {cc : Nat → Nat} (hx : TX S n cc) (ha : a ≤ n) (hb : pbl cc n a = b) (hy : wIs cc n b [116, 101, 109, 112, 116, 101, 100] = y) : RT g mX11_isTempted 3 [.ref 59] (ps S (a, 0, h)) (some (.int (bI y))) (ps S ((if y = true then pwe cc n b else b), 0, h)) := by
  refine RT_ofQ ⟨rfl, rfl⟩ (Nat.le_of_ble_eq_true rfl) (fun sz Q hQ => ?_)
  have hn6 := hx.2.1
  have hbn : b ≤ n := by rw [← hb]; exact pbl_le cc ha
  obtain ⟨u, hu⟩ : ∃ u : Nat × Nat, u = (0, h) := ⟨_, rfl⟩
  refine J_aload_n (pc := 0) dX11_isTempted_0 rfl ?_
  refine J_geti (pc := 1) dX11_isTempted_1 kc11 fl_X11_119 rfl ?_
  refine J_if_eq (pc := 4) (tgt := 9) dX11_isTempted_4 (by decide) (fun c4 => ?_) (fun c4 => absurd (show nI 0 = 0 from rfl) c4)
  refine J_aload_n (pc := 9) dX11_isTempted_9 rfl ?_
  refine J_cvv (pc := 10) (N := mX11_blanks) dX11_isTempted_10 ml_X11_125 cf_X11_blanks cv_X11_blanks (r_X11_blanks (S := S) (t := (a, 0, h)) hx ha) rfl rfl (Nat.le_of_ble_eq_true rfl) (by decide) (rv_of (ci := 11) rfl rfl rfl) ?_
  refine J_cg2 (S' := ps S (b, u)) (ps_same (by rw [hb, hu])) ?_
  refine J_iconst (pc := 13) (v := 0) dX11_isTempted_13 (by decide) ?_
  refine J_istore_n (pc := 14) dX11_isTempted_14 (by decide) rfl ?_
  refine J_iconst (pc := 15) (v := 0) dX11_isTempted_15 (by decide) ?_
  refine J_istore_n (pc := 16) dX11_isTempted_16 (by decide) rfl ?_
  show J g mX11_isTempted 3 [] 17 [some (.ref 59), some (.int (nI (hF (tkd cc b) (min 0 6)))), some (.int (nI 0)), none] [] (hs (ps S (b, u))) sz 0 0 Q
  have loop : ∀ f i, b + i + f = n → (∀ j, j < i → isS (cc (b + j)) = true) → (∀ L, b + L = skp (fun k => isS (cc k)) f (b + i) → (∀ j, j < L → isS (cc (b + j)) = true) → J g mX11_isTempted 3 [] 70 [some (.ref 59), some (.int (nI (hF (tkd cc b) (min L 6)))), some (.int (nI L)), none] [] (hs (ps S (b, u))) sz 0 0 Q) → J g mX11_isTempted 3 [] 17 [some (.ref 59), some (.int (nI (hF (tkd cc b) (min i 6)))), some (.int (nI i)), none] [] (hs (ps S (b, u))) sz 0 0 Q := by
    intro f
    induction f with
    | zero =>
      intro i hi hl hq
      refine J_aload_n (pc := 17) dX11_isTempted_17 rfl ?_
      refine J_aload_n (pc := 18) dX11_isTempted_18 rfl ?_
      refine J_geti (pc := 19) dX11_isTempted_19 kc11 fl_X11_112 rfl ?_
      refine J_iload_n (pc := 22) dX11_isTempted_22 rfl ?_
      refine J_iadd (pc := 23) dX11_isTempted_23 ?_
      refine J_t1 (nI_add b i) ?_
      refine J_cvr (pc := 24) (N := mX11_byteAt) dX11_isTempted_24 ml_X11_115 cf_X11_byteAt cv_X11_byteAt (r_X11_byteAt (S := ps S (b, u)) (k := b + i) (n := n) (cc := cc) hx (by omega)) rfl rfl (Nat.le_of_ble_eq_true rfl) (by decide) (rv_of (ci := 11) rfl rfl rfl) ?_
      refine J_csr (pc := 27) (N := mX11_isSmall) dX11_isTempted_27 ml_X11_141 cf_X11_isSmall cs_X11_isSmall (r_X11_isSmall (S := ps S (b, u))) rfl rfl (Nat.le_of_ble_eq_true rfl) (by decide) ?_
      refine J_ifp_eq (pc := 30) (tgt := 70) dX11_isTempted_30 (by decide) (fun c30 => ?_) (fun c30 => absurd c30 (by rw [show b + i = n by omega, hx.2.2.2 n (Nat.le_refl _)]; decide))
      exact hq i rfl hl
    | succ f ih =>
      intro i hi hl hq
      by_cases q : isS (cc (b + i)) = true
      · have q' : 97 ≤ cc (b + i) ∧ cc (b + i) ≤ 122 := of_decide_eq_true q
        have hbv : bv (cc (b + i)) = nI (cc (b + i)) := if_neg (by omega)
        have hb31 := hF_31 hl
        rw [skp_t (P := fun k => isS (cc k)) q] at hq
        refine J_aload_n (pc := 17) dX11_isTempted_17 rfl ?_
        refine J_aload_n (pc := 18) dX11_isTempted_18 rfl ?_
        refine J_geti (pc := 19) dX11_isTempted_19 kc11 fl_X11_112 rfl ?_
        refine J_iload_n (pc := 22) dX11_isTempted_22 rfl ?_
        refine J_iadd (pc := 23) dX11_isTempted_23 ?_
        refine J_t1 (nI_add b i) ?_
        refine J_cvr (pc := 24) (N := mX11_byteAt) dX11_isTempted_24 ml_X11_115 cf_X11_byteAt cv_X11_byteAt (r_X11_byteAt (S := ps S (b, u)) (k := b + i) (n := n) (cc := cc) hx (by omega)) rfl rfl (Nat.le_of_ble_eq_true rfl) (by decide) (rv_of (ci := 11) rfl rfl rfl) ?_
        refine J_csr (pc := 27) (N := mX11_isSmall) dX11_isTempted_27 ml_X11_141 cf_X11_isSmall cs_X11_isSmall (r_X11_isSmall (S := ps S (b, u))) rfl rfl (Nat.le_of_ble_eq_true rfl) (by decide) ?_
        refine J_ifp_eq (pc := 30) (tgt := 70) dX11_isTempted_30 (by decide) (fun c30 => absurd ((bv_S (TX_le hx (b + i))).mpr q) c30) (fun c30 => ?_)
        refine J_mid 63 (nI (hF (tkd cc b) (min (i + 1) 6))) ?_ (fun hj33 => ?_)
        · refine J_istore_n (pc := 63) dX11_isTempted_63 (by decide) rfl ?_
          refine J_iinc (pc := 64) (v := 1) dX11_isTempted_64 rfl (by decide) rfl ?_
          refine J_goto (pc := 67) (tgt := 17) dX11_isTempted_67 (by decide) ?_
          refine J_cg1 (ls' := [some (.ref 59), some (.int (nI (hF (tkd cc b) (min (i + 1) 6)))), some (.int (nI (i + 1))), none]) (by rw [← nI_1]; rfl) ?_
          exact ih (i + 1) (by omega) (fun j hj => by by_cases e : j = i; (rw [e]; exact q); exact hl j (by omega)) hq
        · refine J_iload_n (pc := 33) dX11_isTempted_33 rfl ?_
          refine J_bipush (pc := 34) (v := 6) dX11_isTempted_34 (by decide) ?_
          refine J_icmp_ge (pc := 36) (tgt := 62) dX11_isTempted_36 (by decide) (fun c36 => ?_) (fun c36 => ?_)
          · refine J_iload_n (pc := 62) dX11_isTempted_62 rfl ?_
            exact hj33 _ (by first | (have c2 : ¬ 6 ≤ i := fun z => c36 ((nI_leI (a := 6) (by decide) (by omega)).mpr z); rw [hbv, show min (i + 1) 6 = i + 1 by omega]; show nI 27 * nI (hF (tkd cc b) (min i 6)) + nI (cc (b + i)) - nI 97 + nI 1 = nI (27 * hF (tkd cc b) i + (cc (b + i) - 96)); rw [show min i 6 = i by omega, pk_mul, nI_add, pk_sub (by omega), nI_add, show 27 * hF (tkd cc b) i + cc (b + i) - 97 + 1 = 27 * hF (tkd cc b) i + (cc (b + i) - 96) by omega]; done) | (have c2 : 6 ≤ i := (nI_leI (a := 6) (by decide) (by omega)).mp c36; rw [show min (i + 1) 6 = min i 6 by omega]; done))
          · refine J_bipush (pc := 39) (v := 27) dX11_isTempted_39 (by decide) ?_
            refine J_iload_n (pc := 41) dX11_isTempted_41 rfl ?_
            refine J_imul (pc := 42) dX11_isTempted_42 ?_
            refine J_aload_n (pc := 43) dX11_isTempted_43 rfl ?_
            refine J_aload_n (pc := 44) dX11_isTempted_44 rfl ?_
            refine J_geti (pc := 45) dX11_isTempted_45 kc11 fl_X11_112 rfl ?_
            refine J_iload_n (pc := 48) dX11_isTempted_48 rfl ?_
            refine J_iadd (pc := 49) dX11_isTempted_49 ?_
            refine J_t1 (nI_add b i) ?_
            refine J_cvr (pc := 50) (N := mX11_byteAt) dX11_isTempted_50 ml_X11_115 cf_X11_byteAt cv_X11_byteAt (r_X11_byteAt (S := ps S (b, u)) (k := b + i) (n := n) (cc := cc) hx (by omega)) rfl rfl (Nat.le_of_ble_eq_true rfl) (by decide) (rv_of (ci := 11) rfl rfl rfl) ?_
            refine J_iadd (pc := 53) dX11_isTempted_53 ?_
            refine J_bipush (pc := 54) (v := 97) dX11_isTempted_54 (by decide) ?_
            refine J_isub (pc := 56) dX11_isTempted_56 ?_
            refine J_iconst (pc := 57) (v := 1) dX11_isTempted_57 (by decide) ?_
            refine J_iadd (pc := 58) dX11_isTempted_58 ?_
            refine J_goto (pc := 59) (tgt := 63) dX11_isTempted_59 (by decide) ?_
            exact hj33 _ (by first | (have c2 : ¬ 6 ≤ i := fun z => c36 ((nI_leI (a := 6) (by decide) (by omega)).mpr z); rw [hbv, show min (i + 1) 6 = i + 1 by omega]; show nI 27 * nI (hF (tkd cc b) (min i 6)) + nI (cc (b + i)) - nI 97 + nI 1 = nI (27 * hF (tkd cc b) i + (cc (b + i) - 96)); rw [show min i 6 = i by omega, pk_mul, nI_add, pk_sub (by omega), nI_add, show 27 * hF (tkd cc b) i + cc (b + i) - 97 + 1 = 27 * hF (tkd cc b) i + (cc (b + i) - 96) by omega]; done) | (have c2 : 6 ≤ i := (nI_leI (a := 6) (by decide) (by omega)).mp c36; rw [show min (i + 1) 6 = min i 6 by omega]; done))
      · rw [skp_f (P := fun k => isS (cc k)) q] at hq
        refine J_aload_n (pc := 17) dX11_isTempted_17 rfl ?_
        refine J_aload_n (pc := 18) dX11_isTempted_18 rfl ?_
        refine J_geti (pc := 19) dX11_isTempted_19 kc11 fl_X11_112 rfl ?_
        refine J_iload_n (pc := 22) dX11_isTempted_22 rfl ?_
        refine J_iadd (pc := 23) dX11_isTempted_23 ?_
        refine J_t1 (nI_add b i) ?_
        refine J_cvr (pc := 24) (N := mX11_byteAt) dX11_isTempted_24 ml_X11_115 cf_X11_byteAt cv_X11_byteAt (r_X11_byteAt (S := ps S (b, u)) (k := b + i) (n := n) (cc := cc) hx (by omega)) rfl rfl (Nat.le_of_ble_eq_true rfl) (by decide) (rv_of (ci := 11) rfl rfl rfl) ?_
        refine J_csr (pc := 27) (N := mX11_isSmall) dX11_isTempted_27 ml_X11_141 cf_X11_isSmall cs_X11_isSmall (r_X11_isSmall (S := ps S (b, u))) rfl rfl (Nat.le_of_ble_eq_true rfl) (by decide) ?_
        refine J_ifp_eq (pc := 30) (tgt := 70) dX11_isTempted_30 (by decide) (fun c30 => ?_) (fun c30 => absurd c30 (fun z => q ((bv_S (TX_le hx (b + i))).mp z)))
        exact hq i rfl hl
  refine loop (n - b) 0 (by omega) (fun j hj => absurd hj (Nat.not_lt_zero j)) (fun L hL hl => ?_)
  have hpw : pwe cc n b = b + L := hL.symm
  clear loop
  have hkey : (L = 7 ∧ hF (tkd cc b) (min L 6) = hF (wdd [116, 101, 109, 112, 116, 101]) 6 ∧ cc (b + 6) = 100) ↔ wIs cc n b [116, 101, 109, 112, 116, 101, 100] = true := by
    have e6 : ∀ i, i < 6 → ([116, 101, 109, 112, 116, 101] : List Nat).getD i 0 = ([116, 101, 109, 112, 116, 101, 100] : List Nat).getD i 0 := by decide
    have w6 : ∀ i, i < 6 → 97 ≤ ([116, 101, 109, 112, 116, 101] : List Nat).getD i 0 ∧ ([116, 101, 109, 112, 116, 101] : List Nat).getD i 0 ≤ 122 := by decide
    unfold wIs
    rw [decide_eq_true_iff, hpw]
    constructor
    · rintro ⟨h1, h2, h3⟩
      rw [h1] at h2
      obtain ⟨_, h4⟩ := hF_inj (k := 6) (k' := 6) (fun i hi => tkd_26 (hl i (by omega))) (fun i hi => by have := w6 i hi; show 1 ≤ ([116, 101, 109, 112, 116, 101] : List Nat).getD i 0 - 96 ∧ ([116, 101, 109, 112, 116, 101] : List Nat).getD i 0 - 96 ≤ 26; omega) h2
      refine ⟨by rw [h1]; rfl, fun i hi => ?_⟩
      by_cases e : i = 6
      · rw [e, h3]; rfl
      · have hi : i < 7 := hi
        have e2 : cc (b + i) - 96 = ([116, 101, 109, 112, 116, 101] : List Nat).getD i 0 - 96 := h4 i (by omega)
        have e3 := w6 i (by omega)
        have e4 : 97 ≤ cc (b + i) := (of_decide_eq_true (hl i (by omega))).1
        rw [← e6 i (by omega)]
        omega
    · rintro ⟨h1, h2⟩
      have h1 : b + L = b + 7 := h1
      have : L = 7 := by omega
      refine ⟨this, ?_, h2 6 (by decide)⟩
      rw [this]
      refine hF_congr (fun i hi => ?_)
      have hi : i < 6 := hi
      show cc (b + i) - 96 = ([116, 101, 109, 112, 116, 101] : List Nat).getD i 0 - 96
      rw [h2 i (by show i < 7; omega), e6 i hi]
  have hL6 : L ≤ 600 := by have := pwe_le cc hbn; omega
  have h31 := hF_31 hl
  cases y
  · refine J_iload_n (pc := 70) dX11_isTempted_70 rfl ?_
    refine J_bipush (pc := 71) (v := 7) dX11_isTempted_71 (by decide) ?_
    refine J_icmp_ne (pc := 73) (tgt := 113) dX11_isTempted_73 (by decide) (fun c73 => ?_) (fun c73 => ?_)
    · refine J_iconst (pc := 113) (v := 0) dX11_isTempted_113 (by decide) ?_
      refine J_istore_n (pc := 114) dX11_isTempted_114 (by decide) rfl ?_
      refine J_iload_n (pc := 115) dX11_isTempted_115 rfl ?_
      refine J_if_eq (pc := 116) (tgt := 123) dX11_isTempted_116 (by decide) (fun c116 => ?_) (fun c116 => absurd rfl c116)
      refine J_iload_n (pc := 123) dX11_isTempted_123 rfl ?_
      exact J_iret (pc := 124) rfl rfl rfl dX11_isTempted_124 (rq hQ rfl (ps_same (by rw [hu]; rfl)))
    · refine J_iload_n (pc := 76) dX11_isTempted_76 rfl ?_
      refine J_bipush (pc := 77) (v := 20) dX11_isTempted_77 (by decide) ?_
      refine J_iconst (pc := 79) (v := 5) dX11_isTempted_79 (by decide) ?_
      refine J_bipush (pc := 80) (v := 13) dX11_isTempted_80 (by decide) ?_
      refine J_bipush (pc := 82) (v := 16) dX11_isTempted_82 (by decide) ?_
      refine J_bipush (pc := 84) (v := 20) dX11_isTempted_84 (by decide) ?_
      refine J_iconst (pc := 86) (v := 5) dX11_isTempted_86 (by decide) ?_
      refine J_csr (pc := 87) (N := mX11_six) dX11_isTempted_87 ml_X11_148 cf_X11_six cs_X11_six (r_X11_six (S := ps S (b, u))) rfl rfl (Nat.le_of_ble_eq_true rfl) (by decide) ?_
      refine J_icmp_ne (pc := 90) (tgt := 113) dX11_isTempted_90 (by decide) (fun c90 => ?_) (fun c90 => ?_)
      · refine J_iconst (pc := 113) (v := 0) dX11_isTempted_113 (by decide) ?_
        refine J_istore_n (pc := 114) dX11_isTempted_114 (by decide) rfl ?_
        refine J_iload_n (pc := 115) dX11_isTempted_115 rfl ?_
        refine J_if_eq (pc := 116) (tgt := 123) dX11_isTempted_116 (by decide) (fun c116 => ?_) (fun c116 => absurd rfl c116)
        refine J_iload_n (pc := 123) dX11_isTempted_123 rfl ?_
        exact J_iret (pc := 124) rfl rfl rfl dX11_isTempted_124 (rq hQ rfl (ps_same (by rw [hu]; rfl)))
      · refine J_aload_n (pc := 93) dX11_isTempted_93 rfl ?_
        refine J_aload_n (pc := 94) dX11_isTempted_94 rfl ?_
        refine J_geti (pc := 95) dX11_isTempted_95 kc11 fl_X11_112 rfl ?_
        refine J_bipush (pc := 98) (v := 6) dX11_isTempted_98 (by decide) ?_
        refine J_iadd (pc := 100) dX11_isTempted_100 ?_
        refine J_t1 (nI_add b 6) ?_
        refine J_cvr (pc := 101) (N := mX11_byteAt) dX11_isTempted_101 ml_X11_115 cf_X11_byteAt cv_X11_byteAt (r_X11_byteAt (S := ps S (b, u)) (k := b + 6) (n := n) (cc := cc) hx (by omega)) rfl rfl (Nat.le_of_ble_eq_true rfl) (by decide) (rv_of (ci := 11) rfl rfl rfl) ?_
        refine J_bipush (pc := 104) (v := 100) dX11_isTempted_104 (by decide) ?_
        refine J_icmp_ne (pc := 106) (tgt := 113) dX11_isTempted_106 (by decide) (fun c106 => ?_) (fun c106 => absurd (show False from by have := hkey.mp ⟨(nI_eq (b := 7) (by omega) (by decide)).mp c73, (nI_eq (by omega) (by decide)).mp c90, (bv_eq (d := 100) (TX_le hx (b + 6)) (by decide)).mp c106⟩; rw [hy] at this; cases this) (fun z => z))
        refine J_iconst (pc := 113) (v := 0) dX11_isTempted_113 (by decide) ?_
        refine J_istore_n (pc := 114) dX11_isTempted_114 (by decide) rfl ?_
        refine J_iload_n (pc := 115) dX11_isTempted_115 rfl ?_
        refine J_if_eq (pc := 116) (tgt := 123) dX11_isTempted_116 (by decide) (fun c116 => ?_) (fun c116 => absurd rfl c116)
        refine J_iload_n (pc := 123) dX11_isTempted_123 rfl ?_
        exact J_iret (pc := 124) rfl rfl rfl dX11_isTempted_124 (rq hQ rfl (ps_same (by rw [hu]; rfl)))
  · obtain ⟨k1, k2, k3⟩ := hkey.mpr hy
    refine J_iload_n (pc := 70) dX11_isTempted_70 rfl ?_
    refine J_bipush (pc := 71) (v := 7) dX11_isTempted_71 (by decide) ?_
    refine J_icmp_ne (pc := 73) (tgt := 113) dX11_isTempted_73 (by decide) (fun c73 => absurd (by rw [k1]; rfl) c73) (fun c73 => ?_)
    refine J_iload_n (pc := 76) dX11_isTempted_76 rfl ?_
    refine J_bipush (pc := 77) (v := 20) dX11_isTempted_77 (by decide) ?_
    refine J_iconst (pc := 79) (v := 5) dX11_isTempted_79 (by decide) ?_
    refine J_bipush (pc := 80) (v := 13) dX11_isTempted_80 (by decide) ?_
    refine J_bipush (pc := 82) (v := 16) dX11_isTempted_82 (by decide) ?_
    refine J_bipush (pc := 84) (v := 20) dX11_isTempted_84 (by decide) ?_
    refine J_iconst (pc := 86) (v := 5) dX11_isTempted_86 (by decide) ?_
    refine J_csr (pc := 87) (N := mX11_six) dX11_isTempted_87 ml_X11_148 cf_X11_six cs_X11_six (r_X11_six (S := ps S (b, u))) rfl rfl (Nat.le_of_ble_eq_true rfl) (by decide) ?_
    refine J_icmp_ne (pc := 90) (tgt := 113) dX11_isTempted_90 (by decide) (fun c90 => absurd (show nI (hF (tkd cc b) (min L 6)) = _ by rw [k2]; decide +kernel) c90) (fun c90 => ?_)
    refine J_aload_n (pc := 93) dX11_isTempted_93 rfl ?_
    refine J_aload_n (pc := 94) dX11_isTempted_94 rfl ?_
    refine J_geti (pc := 95) dX11_isTempted_95 kc11 fl_X11_112 rfl ?_
    refine J_bipush (pc := 98) (v := 6) dX11_isTempted_98 (by decide) ?_
    refine J_iadd (pc := 100) dX11_isTempted_100 ?_
    refine J_t1 (nI_add b 6) ?_
    refine J_cvr (pc := 101) (N := mX11_byteAt) dX11_isTempted_101 ml_X11_115 cf_X11_byteAt cv_X11_byteAt (r_X11_byteAt (S := ps S (b, u)) (k := b + 6) (n := n) (cc := cc) hx (by omega)) rfl rfl (Nat.le_of_ble_eq_true rfl) (by decide) (rv_of (ci := 11) rfl rfl rfl) ?_
    refine J_bipush (pc := 104) (v := 100) dX11_isTempted_104 (by decide) ?_
    refine J_icmp_ne (pc := 106) (tgt := 113) dX11_isTempted_106 (by decide) (fun c106 => absurd ((bv_eq (d := 100) (TX_le hx (b + 6)) (by decide)).mpr k3) c106) (fun c106 => ?_)
    refine J_iconst (pc := 109) (v := 1) dX11_isTempted_109 (by decide) ?_
    refine J_goto (pc := 110) (tgt := 114) dX11_isTempted_110 (by decide) ?_
    refine J_istore_n (pc := 114) dX11_isTempted_114 (by decide) rfl ?_
    refine J_iload_n (pc := 115) dX11_isTempted_115 rfl ?_
    refine J_if_eq (pc := 116) (tgt := 123) dX11_isTempted_116 (by decide) (fun c116 => absurd c116 (by decide)) (fun c116 => ?_)
    refine J_aload_n (pc := 119) dX11_isTempted_119 rfl ?_
    refine J_cvv (pc := 120) (N := mX11_skipWord) dX11_isTempted_120 ml_X11_156 cf_X11_skipWord cv_X11_skipWord (r_X11_skipWord (S := S) (t := (b, u)) hx hbn) rfl rfl (Nat.le_of_ble_eq_true rfl) (by decide) (rv_of (ci := 11) rfl rfl rfl) ?_
    refine J_iload_n (pc := 123) dX11_isTempted_123 rfl ?_
    exact J_iret (pc := 124) rfl rfl rfl dX11_isTempted_124 (rq hQ rfl (ps_same (by rw [hu]; rfl)))
