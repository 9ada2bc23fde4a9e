/-! ===== the tape: words ===== -/
def cut (B : Nat → Bool) : Nat → Nat → Nat → List (Nat × Nat)
  | 0, j, s => [(s, j)]
  | m + 1, j, s => if B j = true then (s, j) :: cut B m (j + 1) (j + 1) else cut B m (j + 1) s
def fnd (T : Nat → Nat → Bool) : List (Nat × Nat) → Nat → Option Nat
  | [], _ => none
  | p :: ps, w => if T p.1 p.2 = true then some w else fnd T ps (w + 1)
def tkn (cc : Nat → Nat) (i a L : Nat) (s j : Nat) : Bool := decide (j - s = L ∧ ∀ q, q < j - s → sB i (s + q) = bv (cc (a + q)))
def sBl (i : Nat) (j : Nat) : Bool := decide (sB i j = 32)
def wds (i : Nat) : List (List Nat) := if i = 0 then wHou else if i = 4 then wLaw ++ [[108, 101, 97, 115, 116], [109, 111, 115, 116]] else wStp
def pok (i : Nat) : List (Nat × Nat) → List (List Nat) → Bool
  | [], [] => true
  | p :: ps, w :: ws => decide (p.2 - p.1 = w.length ∧ ∀ q, q < w.length → sB i (p.1 + q) = nI (w.getD q 0) ∧ w.getD q 0 < 256) && pok i ps ws
  | _, _ => false
theorem fnd_wix {cc : Nat → Nat} {n a L i : Nat} (hL : pwe cc n a = a + L) (hc : ∀ k, cc k = 999 ∨ cc k < 256) : ∀ (ps : List (Nat × Nat)) (ws : List (List Nat)) (k : Nat), pok i ps ws = true → fnd (tkn cc i a L) ps k = wix cc n a ws k
  | [], [], _, _ => rfl
  | [], _ :: _, _, h => by cases h
  | _ :: _, [], _, h => by cases h
  | p :: ps, w :: ws, k, h => by
    have h1 := (Bool.and_eq_true _ _ ▸ h : _ ∧ _)
    obtain ⟨e1, e2⟩ := of_decide_eq_true h1.1
    have e3 : tkn cc i a L p.1 p.2 = wIs cc n a w := by
      unfold tkn wIs
      rw [e1, hL]
      refine decide_eq_decide.mpr ⟨fun ⟨q1, q2⟩ => ⟨by omega, fun j hj => ?_⟩, fun ⟨q1, q2⟩ => ⟨by omega, fun j hj => ?_⟩⟩
      · have := q2 j hj
        rw [(e2 j hj).1] at this
        exact (bv_eq (hc _) (e2 j hj).2).mp this.symm
      · rw [(e2 j hj).1]
        exact ((bv_eq (hc _) (e2 j hj).2).mpr (q2 j hj)).symm
    show (if tkn cc i a L p.1 p.2 = true then some k else fnd (tkn cc i a L) ps (k + 1)) = (if wIs cc n a w = true then some k else wix cc n a ws (k + 1))
    rw [e3, fnd_wix hL hc ps ws (k + 1) h1.2]
set_option maxRecDepth 100000 in
theorem pok_0 : pok 0 (cut (sBl 0) (sN 0) 0 0) (wds 0) = true := by decide +kernel
set_option maxRecDepth 100000 in
theorem pok_4 : pok 4 (cut (sBl 4) (sN 4) 0 0) (wds 4) = true := by decide +kernel
set_option maxRecDepth 100000 in
theorem pok_5 : pok 5 (cut (sBl 5) (sN 5) 0 0) (wds 5) = true := by decide +kernel
def uwd (cc : Nat → Nat) (n : Nat) (W : List (List Nat)) (u : UT) : Option Nat × UT := match wix cc n (pbl cc n u.1) W 0 with
  | some k => (some k, (pwe cc n (pbl cc n u.1), pbl cc n u.1, u.2.2))
  | none => (none, um 1 (pbl cc n u.1) (pwe cc n (pbl cc n u.1), pbl cc n u.1, u.2.2))
theorem UO_wd {n : Nat} {cc : Nat → Nat} {W : List (List Nat)} {u : UT} (h : UO n u) : UO n (uwd cc n W u).2 := by
  have hle := pbl_le cc h.1
  unfold uwd
  split
  · exact ⟨pwe_le cc hle, pwe_ge cc n _, h.2.2⟩
  · exact UO_um ⟨pwe_le cc hle, pwe_ge cc n _, h.2.2⟩ (by omega) hle
theorem nI_subn {a b : Nat} (h : b ≤ a) : nI a - nI b = nI (a - b) := pk_sub h
theorem r_X8_isToken {g : Gp} {S : Sx} {n : Nat} {cc : Nat → Nat} (hx : CTX S n cc) {u : UT} (hu : UO n u) {i s e : Nat} (hi8 : i < 8) (hse : s ≤ e) (he : e ≤ sN i) : RT g mX8_isToken 4 [.ref 1, .ref (SB + i), .int (nI s), .int (nI e)] (ct S u) (some (.int (bI (tkn cc i u.2.1 (u.1 - u.2.1) s e)))) (ct S u) := by
  refine RT_ofQ ⟨rfl, rfl⟩ (Nat.le_of_ble_eq_true rfl) (fun sz Q hQ => ?_)
  have n6 := hx.2.1
  have h100 := sN_le i hi8
  have u1 := hu.1
  have u2 := hu.2.1
  unfold tkn at hQ
  refine J_iload_n (pc := 0) dX8_isToken_0 rfl ?_
  refine J_iload_n (pc := 1) dX8_isToken_1 rfl ?_
  refine J_isub (pc := 2) dX8_isToken_2 ?_
  refine J_aload_n (pc := 3) dX8_isToken_3 rfl ?_
  refine J_geti (pc := 4) dX8_isToken_4 kc8 fl_X8_25 rfl ?_
  refine J_t1 (y := nI u.1) rfl ?_
  refine J_aload_n (pc := 7) dX8_isToken_7 rfl ?_
  refine J_geti (pc := 8) dX8_isToken_8 kc8 fl_X8_28 rfl ?_
  refine J_t1 (y := nI u.2.1) rfl ?_
  refine J_isub (pc := 11) dX8_isToken_11 ?_
  refine J_icmp_eq (pc := 12) (tgt := 17) dX8_isToken_12 (by decide) (fun c12 => ?_) (fun c12 => ?_)
  · refine J_iload_n (pc := 17) dX8_isToken_17 rfl ?_
    refine J_istore (pc := 18) dX8_isToken_18 (by decide) rfl ?_
    rw [nI_subn hse, nI_subn u2] at c12
    have hlen : e - s = u.1 - u.2.1 := (nI_eq (by omega) (by omega)).mp c12
    have key : ∀ m j, s ≤ j → j + m = e → (∀ q, q < j - s → sB i (s + q) = bv (cc (u.2.1 + q))) → J g mX8_isToken 4 [] 20 [some (.ref 1), some (.ref (SB + i)), some (.int (nI s)), some (.int (nI e)), some (.int (nI j))] [] (hs (ct S u)) sz 0 0 Q := by
      intro m
      induction m with
      | zero =>
        intro j hj hm hq
        have hje : j = e := by omega
        subst hje
        refine J_iload (pc := 20) dX8_isToken_20 rfl ?_
        refine J_iload_n (pc := 22) dX8_isToken_22 rfl ?_
        refine J_icmp_ge (pc := 23) (tgt := 65) dX8_isToken_23 (by decide) (fun c23 => ?_) (fun c23 => absurd (Int32.le_refl _) c23)
        refine J_iconst (pc := 65) (v := 1) dX8_isToken_65 (by decide) ?_
        exact J_iret (pc := 66) rfl rfl rfl dX8_isToken_66 (rq hQ (Eq.symm (bI_t ⟨hlen, hq⟩)) rfl)
      | succ m ih =>
        intro j hj hm hq
        refine J_iload (pc := 20) dX8_isToken_20 rfl ?_
        refine J_iload_n (pc := 22) dX8_isToken_22 rfl ?_
        refine J_icmp_ge (pc := 23) (tgt := 65) dX8_isToken_23 (by decide) (fun c23 => absurd c23 (nI_ge (by omega) (by omega))) (fun c23 => ?_)
        refine J_iload (pc := 26) dX8_isToken_26 rfl ?_
        refine J_aload_n (pc := 28) dX8_isToken_28 rfl ?_
        refine J_cvr (pc := 29) (N := mJ0_length_8abf5) dX8_isToken_29 ml_X8_65 cf_J0_length_8abf5 cv_J0_length_8abf5 (r_J0_length_8abf5 hi8) rfl rfl (Nat.le_of_ble_eq_true rfl) (by decide) (Or.inr ⟨rfl, Nat.le_add_right _ _, Nat.add_lt_add_left hi8 _⟩) ?_
        refine J_icmp_ge (pc := 32) (tgt := 65) dX8_isToken_32 (by decide) (fun c32 => absurd c32 (nI_ge (by omega) (by omega))) (fun c32 => ?_)
        refine J_aload_n (pc := 35) dX8_isToken_35 rfl ?_
        refine J_iload (pc := 36) dX8_isToken_36 rfl ?_
        refine J_cvr (pc := 38) (N := mJ0_charAt_5068e) dX8_isToken_38 ml_X8_68 cf_J0_charAt_5068e cv_J0_charAt_5068e (r_J0_charAt_5068e hi8 (k := j) (by omega)) rfl rfl (Nat.le_of_ble_eq_true rfl) (by decide) (Or.inr ⟨rfl, Nat.le_add_right _ _, Nat.add_lt_add_left hi8 _⟩) ?_
        refine J_aload_n (pc := 41) dX8_isToken_41 rfl ?_
        refine J_aload_n (pc := 42) dX8_isToken_42 rfl ?_
        refine J_geti (pc := 43) dX8_isToken_43 kc8 fl_X8_28 rfl ?_
        refine J_t1 (y := nI u.2.1) rfl ?_
        refine J_iload (pc := 46) dX8_isToken_46 rfl ?_
        refine J_iadd (pc := 48) dX8_isToken_48 ?_
        rw [nI_add]
        refine J_iload_n (pc := 49) dX8_isToken_49 rfl ?_
        refine J_isub (pc := 50) dX8_isToken_50 ?_
        refine J_t1 (y := nI (u.2.1 + (j - s))) (by rw [nI_subn (by omega)]; congr 1; omega) ?_
        refine J_cvr (pc := 51) (N := mX8_byteAt) dX8_isToken_51 ml_X8_52 cf_X8_byteAt cv_X8_byteAt (r_X8_byteAt hx (by omega)) rfl rfl (Nat.le_of_ble_eq_true rfl) (by decide) (rv_of (ci := 8) rfl rfl rfl) ?_
        refine J_icmp_eq (pc := 54) (tgt := 59) dX8_isToken_54 (by decide) (fun c54 => ?_) (fun c54 => ?_)
        · have hnew : sB i (s + (j - s)) = bv (cc (u.2.1 + (j - s))) := by rw [show s + (j - s) = j by omega]; exact c54
          refine J_iinc (pc := 59) (v := 1) dX8_isToken_59 rfl (by decide) rfl ?_
          rw [nI_1]
          refine J_goto (pc := 62) (tgt := 20) dX8_isToken_62 (by decide) ?_
          refine ih (j + 1) (by omega) (by omega) (fun q hq1 => ?_)
          by_cases z : q < j - s
          · exact hq q z
          · rw [show q = j - s by omega]; exact hnew
        · have hno : ¬ (e - s = u.1 - u.2.1 ∧ ∀ q, q < e - s → sB i (s + q) = bv (cc (u.2.1 + q))) := fun z => c54 (by have := z.2 (j - s) (by omega); rw [show s + (j - s) = j by omega] at this; exact this)
          refine J_iconst (pc := 57) (v := 0) dX8_isToken_57 (by decide) ?_
          exact J_iret (pc := 58) rfl rfl rfl dX8_isToken_58 (rq hQ (Eq.symm (bI_f hno)) rfl)
    exact key (e - s) s (Nat.le_refl _) (by omega) (fun q hq => absurd hq (by omega))
  · rw [nI_subn hse, nI_subn u2] at c12
    have hno : ¬ (e - s = u.1 - u.2.1 ∧ ∀ q, q < e - s → sB i (s + q) = bv (cc (u.2.1 + q))) := fun z => c12 (by rw [z.1])
    refine J_iconst (pc := 15) (v := 0) dX8_isToken_15 (by decide) ?_
    exact J_iret (pc := 16) rfl rfl rfl dX8_isToken_16 (rq hQ (Eq.symm (bI_f hno)) rfl)
theorem r_X8_word {g : Gp} {S : Sx} {n : Nat} {cc : Nat → Nat} (hx : CTX S n cc) {u : UT} (hu : UO n u) {i : Nat} (hi8 : i < 8) (hp : pok i (cut (sBl i) (sN i) 0 0) (wds i) = true) : RT g mX8_word 5 [.ref 1, .ref (SB + i)] (ct S u) (some (.int (ov (uwd cc n (wds i) u).1))) (ct S (uwd cc n (wds i) u).2) := by
  refine RT_ofQ ⟨rfl, rfl⟩ (Nat.le_of_ble_eq_true rfl) (fun sz Q hQ => ?_)
  have n6 := hx.2.1
  have h100 := sN_le i hi8
  have hle := pbl_le cc hu.1
  unfold uwd at hQ
  obtain ⟨b, hb⟩ : ∃ b, pbl cc n u.1 = b := ⟨_, rfl⟩
  rw [hb] at hQ hle
  obtain ⟨w0, hw0⟩ : ∃ w0, pwe cc n b = w0 := ⟨_, rfl⟩
  have w1 : b ≤ w0 := by rw [← hw0]; exact pwe_ge cc n b
  have w2 : w0 ≤ n := by rw [← hw0]; exact pwe_le cc hle
  have hU : UO n (w0, b, u.2.2) := ⟨w2, w1, hu.2.2⟩
  have hfw := fnd_wix (i := i) (L := w0 - b) (by rw [hw0]; omega) (CTX_le hx) _ _ 0 hp
  rw [← hfw, hw0] at hQ
  refine J_aload_n (pc := 0) dX8_word_0 rfl ?_
  refine J_cvr (pc := 1) (N := mX8_next) dX8_word_1 ml_X8_34 cf_X8_next cv_X8_next (r_X8_next hx hu) rfl rfl (Nat.le_of_ble_eq_true rfl) (by decide) (rv_of (ci := 8) rfl rfl rfl) ?_
  unfold unx
  rw [hb]
  refine J_pop (pc := 4) dX8_word_4 rfl ?_
  have fin : ∀ w s, fnd (tkn cc i b (w0 - b)) (cut (sBl i) (sN i) 0 0) 0 = none → J g mX8_word 5 [] 107 [some (.ref 1), some (.ref (SB + i)), some (.int (nI w)), some (.int (nI s)), some (.int (nI (sN i + 1)))] [] (hs (ct S (w0, b, u.2.2))) sz 0 0 Q := by
    intro w s hr
    rw [hr] at hQ
    refine J_aload_n (pc := 107) dX8_word_107 rfl ?_
    refine J_iconst (pc := 108) (v := 1) dX8_word_108 (by decide) ?_
    refine J_aload_n (pc := 109) dX8_word_109 rfl ?_
    refine J_geti (pc := 110) dX8_word_110 kc8 fl_X8_28 rfl ?_
    refine J_t1 (y := nI b) rfl ?_
    refine J_cvv (pc := 113) (N := mX8_mark) dX8_word_113 ml_X8_44 cf_X8_mark cv_X8_mark (r_X8_mark (k := 1) hU (by decide)) rfl rfl (Nat.le_of_ble_eq_true rfl) (by decide) (rv_of (ci := 8) rfl rfl rfl) ?_
    refine J_iconst (pc := 116) (v := -1) dX8_word_116 (by decide) ?_
    exact J_iret (pc := 117) rfl rfl rfl dX8_word_117 (rq hQ rfl rfl)
  have key : ∀ m j w s, j + m = sN i → s ≤ j → w ≤ j → fnd (tkn cc i b (w0 - b)) (cut (sBl i) m j s) w = fnd (tkn cc i b (w0 - b)) (cut (sBl i) (sN i) 0 0) 0 → J g mX8_word 5 [] 51 [some (.ref 1), some (.ref (SB + i)), some (.int (nI w)), some (.int (nI s)), some (.int (nI j))] [] (hs (ct S (w0, b, u.2.2))) sz 0 0 Q := by
    intro m
    induction m with
    | zero =>
      intro j w s hm hs hw hr
      have hje : j = sN i := by omega
      subst hje
      have hr : (if tkn cc i b (w0 - b) s (sN i) = true then some w else none) = _ := hr
      refine J_iload (pc := 51) dX8_word_51 rfl ?_
      refine J_aload_n (pc := 53) dX8_word_53 rfl ?_
      refine J_cvr (pc := 54) (N := mJ0_length_8abf5) dX8_word_54 ml_X8_65 cf_J0_length_8abf5 cv_J0_length_8abf5 (r_J0_length_8abf5 hi8) rfl rfl (Nat.le_of_ble_eq_true rfl) (by decide) (Or.inr ⟨rfl, Nat.le_add_right _ _, Nat.add_lt_add_left hi8 _⟩) ?_
      refine J_icmp_gt (pc := 57) (tgt := 107) dX8_word_57 (by decide) (fun c57 => absurd c57 Int32.lt_irrefl) (fun c57 => ?_)
      refine J_iload (pc := 60) dX8_word_60 rfl ?_
      refine J_aload_n (pc := 62) dX8_word_62 rfl ?_
      refine J_cvr (pc := 63) (N := mJ0_length_8abf5) dX8_word_63 ml_X8_65 cf_J0_length_8abf5 cv_J0_length_8abf5 (r_J0_length_8abf5 hi8) rfl rfl (Nat.le_of_ble_eq_true rfl) (by decide) (Or.inr ⟨rfl, Nat.le_add_right _ _, Nat.add_lt_add_left hi8 _⟩) ?_
      refine J_icmp_eq (pc := 66) (tgt := 80) dX8_word_66 (by decide) (fun c66 => ?_) (fun c66 => absurd rfl c66)
      refine J_aload_n (pc := 80) dX8_word_80 rfl ?_
      refine J_aload_n (pc := 81) dX8_word_81 rfl ?_
      refine J_iload_n (pc := 82) dX8_word_82 rfl ?_
      refine J_iload (pc := 83) dX8_word_83 rfl ?_
      refine J_cvr (pc := 85) (N := mX8_isToken) dX8_word_85 ml_X8_72 cf_X8_isToken cv_X8_isToken (r_X8_isToken hx hU hi8 hs (Nat.le_refl _)) rfl rfl (Nat.le_of_ble_eq_true rfl) (by decide) (rv_of (ci := 8) rfl rfl rfl) ?_
      refine J_ifp_eq (pc := 88) (tgt := 93) dX8_word_88 (by decide) (fun c88 => ?_) (fun c88 => ?_)
      · rw [if_neg (show ¬ tkn cc i b (w0 - b) s (sN i) = true from fun q => c88 (of_decide_eq_true q))] at hr
        refine J_iinc (pc := 93) (v := 1) dX8_word_93 rfl (by decide) rfl ?_
        rw [nI_1]
        refine J_iload (pc := 96) dX8_word_96 rfl ?_
        refine J_iconst (pc := 98) (v := 1) dX8_word_98 (by decide) ?_
        refine J_iadd (pc := 99) dX8_word_99 ?_
        rw [nI_1]
        refine J_istore_n (pc := 100) dX8_word_100 (by decide) rfl ?_
        refine J_iinc (pc := 101) (v := 1) dX8_word_101 rfl (by decide) rfl ?_
        rw [nI_1]
        refine J_goto (pc := 104) (tgt := 51) dX8_word_104 (by decide) ?_
        refine J_iload (pc := 51) dX8_word_51 rfl ?_
        refine J_aload_n (pc := 53) dX8_word_53 rfl ?_
        refine J_cvr (pc := 54) (N := mJ0_length_8abf5) dX8_word_54 ml_X8_65 cf_J0_length_8abf5 cv_J0_length_8abf5 (r_J0_length_8abf5 hi8) rfl rfl (Nat.le_of_ble_eq_true rfl) (by decide) (Or.inr ⟨rfl, Nat.le_add_right _ _, Nat.add_lt_add_left hi8 _⟩) ?_
        refine J_icmp_gt (pc := 57) (tgt := 107) dX8_word_57 (by decide) (fun c57 => ?_) (fun c57 => absurd (nI_lt (by omega) (by omega)) c57)
        exact fin _ _ hr.symm
      · rw [if_pos (show tkn cc i b (w0 - b) s (sN i) = true from decide_eq_true c88)] at hr
        rw [← hr] at hQ
        refine J_iload_n (pc := 91) dX8_word_91 rfl ?_
        exact J_iret (pc := 92) rfl rfl rfl dX8_word_92 (rq hQ rfl rfl)
    | succ m ih =>
      intro j w s hm hs hw hr
      refine J_iload (pc := 51) dX8_word_51 rfl ?_
      refine J_aload_n (pc := 53) dX8_word_53 rfl ?_
      refine J_cvr (pc := 54) (N := mJ0_length_8abf5) dX8_word_54 ml_X8_65 cf_J0_length_8abf5 cv_J0_length_8abf5 (r_J0_length_8abf5 hi8) rfl rfl (Nat.le_of_ble_eq_true rfl) (by decide) (Or.inr ⟨rfl, Nat.le_add_right _ _, Nat.add_lt_add_left hi8 _⟩) ?_
      refine J_icmp_gt (pc := 57) (tgt := 107) dX8_word_57 (by decide) (fun c57 => absurd c57 (Int32.not_lt.mpr (nI_le (by omega) (by omega)))) (fun c57 => ?_)
      refine J_iload (pc := 60) dX8_word_60 rfl ?_
      refine J_aload_n (pc := 62) dX8_word_62 rfl ?_
      refine J_cvr (pc := 63) (N := mJ0_length_8abf5) dX8_word_63 ml_X8_65 cf_J0_length_8abf5 cv_J0_length_8abf5 (r_J0_length_8abf5 hi8) rfl rfl (Nat.le_of_ble_eq_true rfl) (by decide) (Or.inr ⟨rfl, Nat.le_add_right _ _, Nat.add_lt_add_left hi8 _⟩) ?_
      refine J_icmp_eq (pc := 66) (tgt := 80) dX8_word_66 (by decide) (fun c66 => absurd ((nI_eq (a := j) (b := sN i) (by omega) (by omega)).mp c66) (by omega)) (fun c66 => ?_)
      refine J_aload_n (pc := 69) dX8_word_69 rfl ?_
      refine J_iload (pc := 70) dX8_word_70 rfl ?_
      refine J_cvr (pc := 72) (N := mJ0_charAt_5068e) dX8_word_72 ml_X8_68 cf_J0_charAt_5068e cv_J0_charAt_5068e (r_J0_charAt_5068e hi8 (k := j) (by omega)) rfl rfl (Nat.le_of_ble_eq_true rfl) (by decide) (Or.inr ⟨rfl, Nat.le_add_right _ _, Nat.add_lt_add_left hi8 _⟩) ?_
      refine J_bipush (pc := 75) (v := 32) dX8_word_75 (by decide) ?_
      refine J_icmp_ne (pc := 77) (tgt := 101) dX8_word_77 (by decide) (fun c77 => ?_) (fun c77 => ?_)
      · have hB : ¬ sBl i j = true := fun q => c77 (of_decide_eq_true q)
        rw [show cut (sBl i) (m + 1) j s = cut (sBl i) m (j + 1) s from if_neg hB] at hr
        refine J_iinc (pc := 101) (v := 1) dX8_word_101 rfl (by decide) rfl ?_
        rw [nI_1]
        refine J_goto (pc := 104) (tgt := 51) dX8_word_104 (by decide) ?_
        exact ih _ _ _ (by omega) (by omega) (by omega) hr
      · have hB : sBl i j = true := decide_eq_true c77
        rw [show cut (sBl i) (m + 1) j s = (s, j) :: cut (sBl i) m (j + 1) (j + 1) from if_pos hB] at hr
        have hr : (if tkn cc i b (w0 - b) s j = true then some w else fnd (tkn cc i b (w0 - b)) (cut (sBl i) m (j + 1) (j + 1)) (w + 1)) = _ := hr
        refine J_aload_n (pc := 80) dX8_word_80 rfl ?_
        refine J_aload_n (pc := 81) dX8_word_81 rfl ?_
        refine J_iload_n (pc := 82) dX8_word_82 rfl ?_
        refine J_iload (pc := 83) dX8_word_83 rfl ?_
        refine J_cvr (pc := 85) (N := mX8_isToken) dX8_word_85 ml_X8_72 cf_X8_isToken cv_X8_isToken (r_X8_isToken hx hU hi8 hs (by omega)) rfl rfl (Nat.le_of_ble_eq_true rfl) (by decide) (rv_of (ci := 8) rfl rfl rfl) ?_
        refine J_ifp_eq (pc := 88) (tgt := 93) dX8_word_88 (by decide) (fun c88 => ?_) (fun c88 => ?_)
        · rw [if_neg (show ¬ tkn cc i b (w0 - b) s j = true from fun q => c88 (of_decide_eq_true q))] at hr
          refine J_iinc (pc := 93) (v := 1) dX8_word_93 rfl (by decide) rfl ?_
          rw [nI_1]
          refine J_iload (pc := 96) dX8_word_96 rfl ?_
          refine J_iconst (pc := 98) (v := 1) dX8_word_98 (by decide) ?_
          refine J_iadd (pc := 99) dX8_word_99 ?_
          rw [nI_1]
          refine J_istore_n (pc := 100) dX8_word_100 (by decide) rfl ?_
          refine J_iinc (pc := 101) (v := 1) dX8_word_101 rfl (by decide) rfl ?_
          rw [nI_1]
          refine J_goto (pc := 104) (tgt := 51) dX8_word_104 (by decide) ?_
          exact ih _ _ _ (by omega) (by omega) (by omega) hr
        · rw [if_pos (show tkn cc i b (w0 - b) s j = true from decide_eq_true c88)] at hr
          rw [← hr] at hQ
          refine J_iload_n (pc := 91) dX8_word_91 rfl ?_
          exact J_iret (pc := 92) rfl rfl rfl dX8_word_92 (rq hQ rfl rfl)
  have stt : J g mX8_word 5 [] 44 [some (.ref 1), some (.ref (SB + i)), none, none, none] [] (hs (ct S (w0, b, u.2.2))) sz 0 0 Q := by
    refine J_iconst (pc := 44) (v := 0) dX8_word_44 (by decide) ?_
    refine J_istore_n (pc := 45) dX8_word_45 (by decide) rfl ?_
    refine J_iconst (pc := 46) (v := 0) dX8_word_46 (by decide) ?_
    refine J_istore_n (pc := 47) dX8_word_47 (by decide) rfl ?_
    refine J_iconst (pc := 48) (v := 0) dX8_word_48 (by decide) ?_
    refine J_istore (pc := 49) dX8_word_49 (by decide) rfl ?_
    exact key (sN i) 0 0 0 (by omega) (Nat.le_refl _) (Nat.le_refl _) rfl
  have key0 : ∀ m a, a + m = n → b ≤ a → pwe cc n a = w0 → J g mX8_word 5 [] 5 [some (.ref 1), some (.ref (SB + i)), none, none, none] [] (hs (ct S (a, b, u.2.2))) sz 0 0 Q := by
    intro m
    induction m with
    | zero =>
      intro a ha hba hp1
      have hid : pwe cc n a = a := pwe_id (by rw [hx.2.2.2 a (by omega)]; decide)
      have haw : a = w0 := by omega
      subst haw
      refine J_aload_n (pc := 5) dX8_word_5 rfl ?_
      refine J_geti (pc := 6) dX8_word_6 kc8 fl_X8_25 rfl ?_
      refine J_t1 (y := nI a) rfl ?_
      refine J_aload_n (pc := 9) dX8_word_9 rfl ?_
      refine J_geti (pc := 10) dX8_word_10 kc8 fl_X8_22 rfl ?_
      refine J_t1 (y := nI n) hx.1 ?_
      refine J_icmp_ge (pc := 13) (tgt := 44) dX8_word_13 (by decide) (fun c13 => ?_) (fun c13 => absurd (nI_le (by omega) (by omega)) c13)
      exact stt
    | succ m ih =>
      intro a ha hba hp1
      refine J_aload_n (pc := 5) dX8_word_5 rfl ?_
      refine J_geti (pc := 6) dX8_word_6 kc8 fl_X8_25 rfl ?_
      refine J_t1 (y := nI a) rfl ?_
      refine J_aload_n (pc := 9) dX8_word_9 rfl ?_
      refine J_geti (pc := 10) dX8_word_10 kc8 fl_X8_22 rfl ?_
      refine J_t1 (y := nI n) hx.1 ?_
      refine J_icmp_ge (pc := 13) (tgt := 44) dX8_word_13 (by decide) (fun c13 => absurd c13 (nI_ge (by omega) (by omega))) (fun c13 => ?_)
      refine J_aload_n (pc := 16) dX8_word_16 rfl ?_
      refine J_aload_n (pc := 17) dX8_word_17 rfl ?_
      refine J_aload_n (pc := 18) dX8_word_18 rfl ?_
      refine J_geti (pc := 19) dX8_word_19 kc8 fl_X8_25 rfl ?_
      refine J_t1 (y := nI a) rfl ?_
      refine J_cvr (pc := 22) (N := mX8_byteAt) dX8_word_22 ml_X8_52 cf_X8_byteAt cv_X8_byteAt (r_X8_byteAt hx (by omega)) rfl rfl (Nat.le_of_ble_eq_true rfl) (by decide) (rv_of (ci := 8) rfl rfl rfl) ?_
      refine J_cvr (pc := 25) (N := mX8_isLetter) dX8_word_25 ml_X8_62 cf_X8_isLetter cv_X8_isLetter r_X8_isLetter rfl rfl (Nat.le_of_ble_eq_true rfl) (by decide) (rv_of (ci := 8) rfl rfl rfl) ?_
      refine J_ifp_eq (pc := 28) (tgt := 44) dX8_word_28 (by decide) (fun c28 => ?_) (fun c28 => ?_)
      · have haw : a = w0 := by rw [← hp1]; exact (pwe_id (fun q => c28 ((bv_S (CTX_le hx _)).mpr q))).symm
        subst haw
        exact stt
      · have hS := (bv_S (CTX_le hx _)).mp c28
        refine J_aload_n (pc := 31) dX8_word_31 rfl ?_
        refine J_dup (pc := 32) dX8_word_32 rfl ?_
        refine J_geti (pc := 33) dX8_word_33 kc8 fl_X8_25 rfl ?_
        refine J_t1 (y := nI a) rfl ?_
        refine J_iconst (pc := 36) (v := 1) dX8_word_36 (by decide) ?_
        refine J_iadd (pc := 37) dX8_word_37 ?_
        rw [nI_1]
        refine J_puti (pc := 38) dX8_word_38 kc8 fl_X8_25 rfl ⟨rfl, rfl⟩ ?_
        rw [ct_at]
        refine J_goto (pc := 41) (tgt := 5) dX8_word_41 (by decide) ?_
        exact ih (a + 1) (by omega) (by omega) (by rw [← hp1]; exact (pwe_s (by omega) hS).symm)
  exact key0 (n - b) b (by omega) (Nat.le_refl _) hw0
