/-! feeding, undoing, images -/
def fv (a b c d e : Int32) (i : Nat) : Int32 := if 4 ≤ ix i then (if 8 ≤ ix i then (if 12 ≤ ix i then (if 16 ≤ ix i then e else d) else c) else b) else a
def fb (a b c d e : Int32) (i : Nat) : Int32 := fv a b c d e i >>> ((24 - 8 * (ix i - ix i / 4 * 4)) &&& 31) &&& 255
def fdS (S : Sx) (t : Nat) (v : Nat → Int32) : Nat → Sx
  | 0 => S
  | i + 1 => sF (sA (fdS S t v i) 60 (t + i) (v i)) 59 1 (nI (t + i) + 1)
theorem fdS_t {S : Sx} {t : Nat} {v : Nat → Int32} (h : sf S 59 1 = nI t) : ∀ i, sf (fdS S t v i) 59 1 = nI (t + i)
  | 0 => h
  | i + 1 => by
    show nI (t + i) + 1 = _
    rw [nI_1]
    rfl
theorem r_X11_feed_no {g : Gp} {S : Sx} {a b c d e : Int32} {t : Nat} (ht : sf S 59 1 = nI t) (h6 : t ≤ 600) (hf : ¬ t + 20 ≤ 600) : RT g mX11_feed 0 [.ref 59, .int a, .int b, .int c, .int d, .int e] S (some (.int (-1))) (S0 S) := by
  refine RT_ofQ ⟨rfl, rfl⟩ (Nat.le_of_ble_eq_true rfl) (fun sz Q hQ => ?_)
  refine J_aload_n (pc := 0) dX11_feed_0 rfl ?_
  refine J_iconst (pc := 1) (v := 0) dX11_feed_1 (by decide) ?_
  refine J_puti (pc := 2) dX11_feed_2 kc11 fl_X11_103 rfl ⟨rfl, rfl⟩ ?_
  refine J_aload_n (pc := 5) dX11_feed_5 rfl ?_
  refine J_geti (pc := 6) dX11_feed_6 kc11 fl_X11_106 rfl ?_
  refine J_bipush (pc := 9) (v := 20) dX11_feed_9 (by decide) ?_
  refine J_iadd (pc := 11) dX11_feed_11 ?_
  refine J_t1 (y := nI (t + 20)) ((congrArg (fun z => z + (20 : Int32)) ht).trans (nI_add t 20)) ?_
  refine J_sipush (pc := 12) (v := 600) dX11_feed_12 (by decide) ?_
  refine J_icmp_le (pc := 15) (tgt := 20) dX11_feed_15 (by decide) (fun c15 => absurd c15 (fun q => hf ((nI_leI (b := 600) (by omega) (by decide)).mp q))) (fun c15 => ?_)
  refine J_iconst (pc := 18) (v := -1) dX11_feed_18 (by decide) ?_
  exact J_iret (pc := 19) rfl rfl rfl dX11_feed_19 (rq hQ (by first | rfl | simp [bI, *] | simp_all [bI]) rfl)
theorem r_X11_feed {g : Gp} {S : Sx} {a b c d e : Int32} {t : Nat} (ht : sf S 59 1 = nI t) (hf : t + 20 ≤ 600) : RT g mX11_feed 0 [.ref 59, .int a, .int b, .int c, .int d, .int e] S (some (.int (nI (t + 20)))) (fdS (S0 S) t (fb a b c d e) 20) := by
  refine RT_ofQ ⟨rfl, rfl⟩ (Nat.le_of_ble_eq_true rfl) (fun sz Q hQ => ?_)
  refine J_aload_n (pc := 0) dX11_feed_0 rfl ?_
  refine J_iconst (pc := 1) (v := 0) dX11_feed_1 (by decide) ?_
  refine J_puti (pc := 2) dX11_feed_2 kc11 fl_X11_103 rfl ⟨rfl, rfl⟩ ?_
  refine J_aload_n (pc := 5) dX11_feed_5 rfl ?_
  refine J_geti (pc := 6) dX11_feed_6 kc11 fl_X11_106 rfl ?_
  refine J_bipush (pc := 9) (v := 20) dX11_feed_9 (by decide) ?_
  refine J_iadd (pc := 11) dX11_feed_11 ?_
  refine J_t1 (y := nI (t + 20)) ((congrArg (fun z => z + (20 : Int32)) ht).trans (nI_add t 20)) ?_
  refine J_sipush (pc := 12) (v := 600) dX11_feed_12 (by decide) ?_
  refine J_icmp_le (pc := 15) (tgt := 20) dX11_feed_15 (by decide) (fun c15 => ?_) (fun c15 => absurd (nI_le (b := 600) hf (by decide)) c15)
  refine J_iconst (pc := 20) (v := 0) dX11_feed_20 (by decide) ?_
  refine J_istore (pc := 21) dX11_feed_21 (by decide) rfl ?_
  show J g mX11_feed 0 [] 23 [some (.ref 59), some (.int a), some (.int b), some (.int c), some (.int d), some (.int e), some (.int 0), none] [] (hs (S0 S)) sz 0 0 Q
  refine dn_ind (n := 20) (P := fun i => J g mX11_feed 0 [] 23 [some (.ref 59), some (.int a), some (.int b), some (.int c), some (.int d), some (.int e), some (.int (ix i)), none] [] (hs (fdS (S0 S) t (fb a b c d e) i)) sz 0 0 Q) ?_ (fun i hi ih => ?_) 0 (Nat.zero_le _)
  · refine J_iload (pc := 23) dX11_feed_23 rfl ?_
    refine J_bipush (pc := 25) (v := 20) dX11_feed_25 (by decide) ?_
    refine J_icmp_ge (pc := 27) (tgt := 120) dX11_feed_27 (by decide) (fun c27 => ?_) (fun c27 => absurd (ix_ge (n := 20) rfl) c27)
    refine J_aload_n (pc := 120) dX11_feed_120 rfl ?_
    refine J_geti (pc := 121) dX11_feed_121 kc11 fl_X11_106 rfl ?_
    exact J_iret (pc := 124) rfl rfl rfl dX11_feed_124 (rq hQ (fdS_t (S := S0 S) ht 20) rfl)
  · have htt := fdS_t (S := S0 S) (v := fb a b c d e) ht i
    refine J_iload (pc := 23) dX11_feed_23 rfl ?_
    refine J_bipush (pc := 25) (v := 20) dX11_feed_25 (by decide) ?_
    refine J_icmp_ge (pc := 27) (tgt := 120) dX11_feed_27 (by decide) (fun c27 => absurd c27 (ix_lt (n := 20) rfl hi (by decide))) (fun c27 => ?_)
    refine J_mid 76 (fv a b c d e i) ?_ (fun hj30 => ?_)
    · refine J_istore (pc := 76) dX11_feed_76 (by decide) rfl ?_
      refine J_aload_n (pc := 78) dX11_feed_78 rfl ?_
      refine J_getr (pc := 79) dX11_feed_79 kc11 fl_X11_13 rfl ?_
      refine J_aload_n (pc := 82) dX11_feed_82 rfl ?_
      refine J_geti (pc := 83) dX11_feed_83 kc11 fl_X11_106 rfl ?_
      refine J_t1 (y := nI (t + i)) htt ?_
      refine J_iload (pc := 86) dX11_feed_86 rfl ?_
      refine J_bipush (pc := 88) (v := 24) dX11_feed_88 (by decide) ?_
      refine J_bipush (pc := 90) (v := 8) dX11_feed_90 (by decide) ?_
      refine J_iload (pc := 92) dX11_feed_92 rfl ?_
      refine J_iconst (pc := 94) (v := 4) dX11_feed_94 (by decide) ?_
      refine J_irem (pc := 95) dX11_feed_95 (by decide) ?_
      refine J_imul (pc := 96) dX11_feed_96 ?_
      refine J_isub (pc := 97) dX11_feed_97 ?_
      refine J_ishr (pc := 98) dX11_feed_98 ?_
      refine J_sipush (pc := 99) (v := 255) dX11_feed_99 (by decide) ?_
      refine J_iand (pc := 102) dX11_feed_102 ?_
      refine J_is (pc := 103) dX11_feed_103 (by first | rfl | assumption) rfl ⟨by first | decide | omega, by decide⟩ ?_
      refine J_aload_n (pc := 104) dX11_feed_104 rfl ?_
      refine J_dup (pc := 105) dX11_feed_105 rfl ?_
      refine J_geti (pc := 106) dX11_feed_106 kc11 fl_X11_106 rfl ?_
      refine J_t1 (y := nI (t + i)) htt ?_
      refine J_iconst (pc := 109) (v := 1) dX11_feed_109 (by decide) ?_
      refine J_iadd (pc := 110) dX11_feed_110 ?_
      refine J_puti (pc := 111) dX11_feed_111 kc11 fl_X11_106 rfl ⟨rfl, rfl⟩ ?_
      refine J_iinc (pc := 114) (v := 1) dX11_feed_114 rfl (by decide) rfl ?_
      refine J_goto (pc := 117) (tgt := 23) dX11_feed_117 (by decide) ?_
      refine J_forget (fun k u hu => ?_) ih
      rcases k with _ | _ | _ | _ | _ | _ | _ | _ | k <;> first | exact hu | (simp at hu)
    · refine J_iload (pc := 30) dX11_feed_30 rfl ?_
      refine J_iconst (pc := 32) (v := 4) dX11_feed_32 (by decide) ?_
      refine J_icmp_ge (pc := 33) (tgt := 40) dX11_feed_33 (by decide) (fun c33 => ?_) (fun c33 => ?_)
      · refine J_iload (pc := 40) dX11_feed_40 rfl ?_
        refine J_bipush (pc := 42) (v := 8) dX11_feed_42 (by decide) ?_
        refine J_icmp_ge (pc := 44) (tgt := 51) dX11_feed_44 (by decide) (fun c44 => ?_) (fun c44 => ?_)
        · refine J_iload (pc := 51) dX11_feed_51 rfl ?_
          refine J_bipush (pc := 53) (v := 12) dX11_feed_53 (by decide) ?_
          refine J_icmp_ge (pc := 55) (tgt := 62) dX11_feed_55 (by decide) (fun c55 => ?_) (fun c55 => ?_)
          · refine J_iload (pc := 62) dX11_feed_62 rfl ?_
            refine J_bipush (pc := 64) (v := 16) dX11_feed_64 (by decide) ?_
            refine J_icmp_ge (pc := 66) (tgt := 74) dX11_feed_66 (by decide) (fun c66 => ?_) (fun c66 => ?_)
            · refine J_iload (pc := 74) dX11_feed_74 rfl ?_
              exact hj30 _ (by unfold fv; first | exact (if_neg c33).symm | (rw [if_pos c33]; first | exact (if_neg c44).symm | (rw [if_pos c44]; first | exact (if_neg c55).symm | (rw [if_pos c55]; first | exact (if_neg c66).symm | exact (if_pos c66).symm))))
            · refine J_iload (pc := 69) dX11_feed_69 rfl ?_
              refine J_goto (pc := 71) (tgt := 76) dX11_feed_71 (by decide) ?_
              exact hj30 _ (by unfold fv; first | exact (if_neg c33).symm | (rw [if_pos c33]; first | exact (if_neg c44).symm | (rw [if_pos c44]; first | exact (if_neg c55).symm | (rw [if_pos c55]; first | exact (if_neg c66).symm | exact (if_pos c66).symm))))
          · refine J_iload_n (pc := 58) dX11_feed_58 rfl ?_
            refine J_goto (pc := 59) (tgt := 76) dX11_feed_59 (by decide) ?_
            exact hj30 _ (by unfold fv; first | exact (if_neg c33).symm | (rw [if_pos c33]; first | exact (if_neg c44).symm | (rw [if_pos c44]; first | exact (if_neg c55).symm | (rw [if_pos c55]; first | exact (if_neg c66).symm | exact (if_pos c66).symm))))
        · refine J_iload_n (pc := 47) dX11_feed_47 rfl ?_
          refine J_goto (pc := 48) (tgt := 76) dX11_feed_48 (by decide) ?_
          exact hj30 _ (by unfold fv; first | exact (if_neg c33).symm | (rw [if_pos c33]; first | exact (if_neg c44).symm | (rw [if_pos c44]; first | exact (if_neg c55).symm | (rw [if_pos c55]; first | exact (if_neg c66).symm | exact (if_pos c66).symm))))
      · refine J_iload_n (pc := 36) dX11_feed_36 rfl ?_
        refine J_goto (pc := 37) (tgt := 76) dX11_feed_37 (by decide) ?_
        exact hj30 _ (by unfold fv; first | exact (if_neg c33).symm | (rw [if_pos c33]; first | exact (if_neg c44).symm | (rw [if_pos c44]; first | exact (if_neg c55).symm | (rw [if_pos c55]; first | exact (if_neg c66).symm | exact (if_pos c66).symm))))
theorem cpS_f (S : Sx) (b a : Nat) : ∀ i, sf (cpS S b a i) = sf S
  | 0 => rfl
  | i + 1 => cpS_f S b a i
theorem row_before {k : Nat} (h : k < 16) : isRow (538 + k) := lay_before h
theorem r_X11_undo_no {g : Gp} {S : Sx} (h : sf S 59 36 = 0) : RT g mX11_undo 1 [.ref 59] S (some (.int (-1))) (S0 S) := by
  refine RT_ofQ ⟨rfl, rfl⟩ (Nat.le_of_ble_eq_true rfl) (fun sz Q hQ => ?_)
  refine J_aload_n (pc := 0) dX11_undo_0 rfl ?_
  refine J_iconst (pc := 1) (v := 0) dX11_undo_1 (by decide) ?_
  refine J_puti (pc := 2) dX11_undo_2 kc11 fl_X11_103 rfl ⟨rfl, rfl⟩ ?_
  refine J_aload_n (pc := 5) dX11_undo_5 rfl ?_
  refine J_geti (pc := 6) dX11_undo_6 kc11 fl_X11_206 rfl ?_
  refine J_if_ne (pc := 9) (tgt := 14) dX11_undo_9 (by decide) (fun c9 => absurd h c9) (fun c9 => ?_)
  refine J_iconst (pc := 12) (v := -1) dX11_undo_12 (by decide) ?_
  exact J_iret (pc := 13) rfl rfl rfl dX11_undo_13 (rq hQ (by first | rfl | simp [bI, *] | simp_all [bI]) rfl)
theorem r_X11_undo {g : Gp} {S : Sx} {w : Nat} (h : sf S 59 36 = nI (w + 1)) (hw : w < 16) : RT g mX11_undo 1 [.ref 59] S (some (.int (nI w))) (sF (cpS (sF (S0 S) 59 36 (nI w)) (538 + w) 535 45) 59 37 0) := by
  refine RT_ofQ ⟨rfl, rfl⟩ (Nat.le_of_ble_eq_true rfl) (fun sz Q hQ => ?_)
  refine J_aload_n (pc := 0) dX11_undo_0 rfl ?_
  refine J_iconst (pc := 1) (v := 0) dX11_undo_1 (by decide) ?_
  refine J_puti (pc := 2) dX11_undo_2 kc11 fl_X11_103 rfl ⟨rfl, rfl⟩ ?_
  refine J_aload_n (pc := 5) dX11_undo_5 rfl ?_
  refine J_geti (pc := 6) dX11_undo_6 kc11 fl_X11_206 rfl ?_
  refine J_if_ne (pc := 9) (tgt := 14) dX11_undo_9 (by decide) (fun c9 => ?_) (fun c9 => absurd c9 (by show ¬ sf S 59 36 = 0; rw [h]; exact nI_ne0 (by omega) (by omega)))
  refine J_aload_n (pc := 14) dX11_undo_14 rfl ?_
  refine J_dup (pc := 15) dX11_undo_15 rfl ?_
  refine J_geti (pc := 16) dX11_undo_16 kc11 fl_X11_206 rfl ?_
  refine J_iconst (pc := 19) (v := 1) dX11_undo_19 (by decide) ?_
  refine J_isub (pc := 20) dX11_undo_20 ?_
  refine J_t1 (y := nI w) ((congrArg (fun z => z - (1 : Int32)) h).trans (nI_pred w)) ?_
  refine J_puti (pc := 21) dX11_undo_21 kc11 fl_X11_206 rfl ⟨rfl, rfl⟩ ?_
  refine J_aload_n (pc := 24) dX11_undo_24 rfl ?_
  refine J_getr (pc := 25) dX11_undo_25 kc11 fl_X11_79 rfl ?_
  refine J_aload_n (pc := 28) dX11_undo_28 rfl ?_
  refine J_geti (pc := 29) dX11_undo_29 kc11 fl_X11_206 rfl ?_
  refine J_ar1 (pc := 32) dX11_undo_32 rfl rfl ⟨by first | decide | omega, by decide⟩ ?_
  refine J_aload_n (pc := 33) dX11_undo_33 rfl ?_
  refine J_getr (pc := 34) dX11_undo_34 kc11 fl_X11_73 rfl ?_
  refine J_csv (pc := 37) (N := mX11_copies) dX11_undo_37 ml_X11_325 cf_X11_copies cs_X11_copies (r_X11_copies row535 (row_before hw)) rfl rfl (Nat.le_of_ble_eq_true rfl) (by decide) ?_
  refine J_aload_n (pc := 40) dX11_undo_40 rfl ?_
  refine J_iconst (pc := 41) (v := 0) dX11_undo_41 (by decide) ?_
  refine J_puti (pc := 42) dX11_undo_42 kc11 fl_X11_209 rfl ⟨rfl, rfl⟩ ?_
  refine J_aload_n (pc := 45) dX11_undo_45 rfl ?_
  refine J_geti (pc := 46) dX11_undo_46 kc11 fl_X11_206 rfl ?_
  exact J_iret (pc := 49) rfl rfl rfl dX11_undo_49 (rq hQ (show sf (cpS (sF (S0 S) 59 36 (nI w)) (538 + w) 535 45) 59 36 = nI w by rw [cpS_f]; rfl) rfl)
def sAA (S : Sx) (a : Nat) (f : Nat → Int32) : Sx := (sf S, sp S, fun b => if b = a then f else sa S b, sl S, sx S)
theorem sAA_put (S : Sx) (a k : Nat) (f : Nat → Int32) (v : Int32) : sA (sAA S a f) a k v = sAA S a (upd f k v) := by
  have : up2 (fun b => if b = a then f else sa S b) a k v = fun b => if b = a then upd f k v else sa S b := by
    funext b y
    by_cases hb : b = a
    · subst hb; simp [up2, upd]
    · simp [up2, hb]
  show (sf S, sp S, up2 (fun b => if b = a then f else sa S b) a k v, sl S, sx S) = (sf S, sp S, _, sl S, sx S)
  rw [this]
theorem sAA_self (S : Sx) (a : Nat) : sAA S a (sa S a) = S := by
  have : (fun b => if b = a then sa S a else sa S b) = sa S := by
    funext b
    by_cases hb : b = a
    · simp [hb]
    · simp [hb]
  show (sf S, sp S, _, sl S, sx S) = S
  rw [this]
theorem sA_same {S : Sx} {a k : Nat} {v : Int32} (h : sa S a k = v) : sA S a k v = S := by
  subst h
  have : up2 (sa S) a k (sa S a k) = sa S := by
    funext b y
    unfold up2
    by_cases hb : b = a
    · by_cases hy : y = k
      · subst hb; subst hy; simp
      · simp [hy]
    · simp [hb]
  show (sf S, sp S, _, sl S, sx S) = S
  rw [this]
theorem sF_same {S : Sx} {a k : Nat} {v : Int32} (h : sf S a k = v) : sF S a k v = S := by
  subst h
  have : up2 (sf S) a k (sf S a k) = sf S := by
    funext b y
    unfold up2
    by_cases hb : b = a
    · by_cases hy : y = k
      · subst hb; subst hy; simp
      · simp [hy]
    · simp [hb]
  show (_, sp S, sa S, sl S, sx S) = S
  rw [this]
theorem sF_sF (S : Sx) (a k : Nat) (v w : Int32) : sF (sF S a k v) a k w = sF S a k w := by
  have : up2 (up2 (sf S) a k v) a k w = up2 (sf S) a k w := by
    funext b y
    unfold up2
    by_cases hb : b = a <;> by_cases hy : y = k <;> simp [hb, hy]
  show (up2 (up2 (sf S) a k v) a k w, sp S, sa S, sl S, sx S) = (_, sp S, sa S, sl S, sx S)
  rw [this]
abbrev isKRow (a : Nat) : Prop := lay a = some (.inr (0, 766, 0, 0))
theorem r_X11_puts_f {g : Gp} {S : Sx} {a k : Nat} {v : Int32} (ha : isKRow a) (hk : sf S 59 39 = nI k) (h7 : k < 766) : RT g mX11_puts 0 [.ref 59, .ref a, .int v, .int 0] S (some (.int v)) (sF (sA S a k v) 59 39 (nI (k + 1))) := by
  refine RT_ofQ ⟨rfl, rfl⟩ (Nat.le_of_ble_eq_true rfl) (fun sz Q hQ => ?_)
  refine J_iload_n (pc := 0) dX11_puts_0 rfl ?_
  refine J_if_ne (pc := 1) (tgt := 11) dX11_puts_1 (by decide) (fun c1 => absurd rfl c1) (fun c1 => ?_)
  refine J_aload_n (pc := 4) dX11_puts_4 rfl ?_
  refine J_aload_n (pc := 5) dX11_puts_5 rfl ?_
  refine J_geti (pc := 6) dX11_puts_6 kc11 fl_X11_404 rfl ?_
  refine J_iload_n (pc := 9) dX11_puts_9 rfl ?_
  refine J_is (pc := 10) dX11_puts_10 (by first | rfl | assumption) hk ⟨by first | decide | omega, by decide⟩ ?_
  refine J_aload_n (pc := 11) dX11_puts_11 rfl ?_
  refine J_dup (pc := 12) dX11_puts_12 rfl ?_
  refine J_geti (pc := 13) dX11_puts_13 kc11 fl_X11_404 rfl ?_
  refine J_t1 (y := nI k) hk ?_
  refine J_iconst (pc := 16) (v := 1) dX11_puts_16 (by decide) ?_
  refine J_iadd (pc := 17) dX11_puts_17 ?_
  refine J_t1 (nI_1 k) ?_
  refine J_puti (pc := 18) dX11_puts_18 kc11 fl_X11_404 rfl ⟨rfl, rfl⟩ ?_
  refine J_aload_n (pc := 21) dX11_puts_21 rfl ?_
  refine J_aload_n (pc := 22) dX11_puts_22 rfl ?_
  refine J_geti (pc := 23) dX11_puts_23 kc11 fl_X11_404 rfl ?_
  refine J_t1 (y := nI (k + 1)) rfl ?_
  refine J_iconst (pc := 26) (v := 1) dX11_puts_26 (by decide) ?_
  refine J_isub (pc := 27) dX11_puts_27 ?_
  refine J_t1 (nI_pred k) ?_
  refine J_il (pc := 28) dX11_puts_28 (by first | rfl | assumption) rfl ⟨by first | decide | omega, by decide⟩ ?_
  exact J_iret (pc := 29) rfl rfl rfl dX11_puts_29 (rq hQ sA_s rfl)
theorem r_X11_puts_t {g : Gp} {S : Sx} {a k : Nat} {v : Int32} (ha : isKRow a) (hk : sf S 59 39 = nI k) (h7 : k < 766) : RT g mX11_puts 0 [.ref 59, .ref a, .int v, .int 1] S (some (.int (sa S a k))) (sF S 59 39 (nI (k + 1))) := by
  refine RT_ofQ ⟨rfl, rfl⟩ (Nat.le_of_ble_eq_true rfl) (fun sz Q hQ => ?_)
  refine J_iload_n (pc := 0) dX11_puts_0 rfl ?_
  refine J_if_ne (pc := 1) (tgt := 11) dX11_puts_1 (by decide) (fun c1 => ?_) (fun c1 => absurd c1 (by decide))
  refine J_aload_n (pc := 11) dX11_puts_11 rfl ?_
  refine J_dup (pc := 12) dX11_puts_12 rfl ?_
  refine J_geti (pc := 13) dX11_puts_13 kc11 fl_X11_404 rfl ?_
  refine J_t1 (y := nI k) hk ?_
  refine J_iconst (pc := 16) (v := 1) dX11_puts_16 (by decide) ?_
  refine J_iadd (pc := 17) dX11_puts_17 ?_
  refine J_t1 (nI_1 k) ?_
  refine J_puti (pc := 18) dX11_puts_18 kc11 fl_X11_404 rfl ⟨rfl, rfl⟩ ?_
  refine J_aload_n (pc := 21) dX11_puts_21 rfl ?_
  refine J_aload_n (pc := 22) dX11_puts_22 rfl ?_
  refine J_geti (pc := 23) dX11_puts_23 kc11 fl_X11_404 rfl ?_
  refine J_t1 (y := nI (k + 1)) rfl ?_
  refine J_iconst (pc := 26) (v := 1) dX11_puts_26 (by decide) ?_
  refine J_isub (pc := 27) dX11_puts_27 ?_
  refine J_t1 (nI_pred k) ?_
  refine J_il (pc := 28) dX11_puts_28 (by first | rfl | assumption) rfl ⟨by first | decide | omega, by decide⟩ ?_
  exact J_iret (pc := 29) rfl rfl rfl dX11_puts_29 (rq hQ (by first | rfl | simp [bI, *] | simp_all [bI]) rfl)
/-- what an image holds at its place c -/
def isr (S : Sx) (c : Nat) : Int32 := if c = 0 then sf S 59 36 else if c < 46 then sa S 535 (c - 1) else sa S (538 + (c - 46) / 45) ((c - 46) % 45)
/-- c places of row a are filled -/
def imS (S : Sx) (a c : Nat) : Sx := sF (sAA S a (fun i => if i < c then isr S i else sa S a i)) 59 39 (nI c)
theorem imS_put {S : Sx} {a c : Nat} {v : Int32} (hv : v = isr S c) : sF (sA (imS S a c) a c v) 59 39 (nI (c + 1)) = imS S a (c + 1) := by
  subst hv
  unfold imS
  show sF (sF (sA (sAA S a _) a c (isr S c)) 59 39 (nI c)) 59 39 (nI (c + 1)) = _
  rw [sF_sF, sAA_put]
  congr 2
  funext i
  unfold upd
  by_cases h : i = c
  · subst h; simp
  · by_cases h2 : i < c
    · simp [h, h2, Nat.lt_succ_of_lt h2]
    · simp [h, h2, show ¬ i < c + 1 by omega]
theorem imS_o {S : Sx} {a b c : Nat} (h : b ≠ a) : sa (imS S a c) b = sa S b := by
  show (if b = a then _ else sa S b) = sa S b
  rw [if_neg h]
theorem imS_0 {S : Sx} {a : Nat} : imS S a 0 = sF S 59 39 0 := by
  unfold imS
  have : (fun i => if i < 0 then isr S i else sa S a i) = sa S a := by funext i; simp
  rw [this, sAA_self]
  rfl
theorem isr_now (S : Sx) {k : Nat} (h : k < 45) : isr S (k + 1) = sa S 535 k := by
  unfold isr
  rw [if_neg (by omega), if_pos (by omega), Nat.add_sub_cancel]
theorem isr_bef (S : Sx) {w k : Nat} (h : k < 45) : isr S (46 + 45 * w + k) = sa S (538 + w) k := by
  unfold isr
  rw [if_neg (by omega), if_neg (by omega), show 46 + 45 * w + k - 46 = k + 45 * w by omega, Nat.add_mul_div_left _ _ (by decide), Nat.div_eq_of_lt h, Nat.add_mul_mod_self_left, Nat.mod_eq_of_lt h, Nat.zero_add]
theorem kr_ne {a b m : Nat} (ha : isKRow a) (hb : lay b = some (.inr (0, m, 0, 0))) (hm : m ≠ 766) : b ≠ a := by
  intro q
  subst q
  have ha' : lay b = some (.inr (0, 766, 0, 0)) := ha
  rw [ha'] at hb
  cases hb
  exact hm rfl
theorem r_X11_putsAll_f {g : Gp} {S : Sx} {a : Nat} (ha : isKRow a) : RT g mX11_putsAll 1 [.ref 59, .ref a, .int 0] S none (imS S a 766) := by
  refine RT_ofQ ⟨rfl, rfl⟩ (Nat.le_of_ble_eq_true rfl) (fun sz Q hQ => ?_)
  have n5 : 535 ≠ a := kr_ne ha row535 (by decide)
  have nb : ∀ w, w < 16 → 538 + w ≠ a := fun w hw => kr_ne ha (row_before hw) (by decide)
  refine J_aload_n (pc := 0) dX11_putsAll_0 rfl ?_
  refine J_iconst (pc := 1) (v := 0) dX11_putsAll_1 (by decide) ?_
  refine J_puti (pc := 2) dX11_putsAll_2 kc11 fl_X11_404 rfl ⟨rfl, rfl⟩ ?_
  refine J_aload_n (pc := 5) dX11_putsAll_5 rfl ?_
  refine J_aload_n (pc := 6) dX11_putsAll_6 rfl ?_
  refine J_aload_n (pc := 7) dX11_putsAll_7 rfl ?_
  refine J_aload_n (pc := 8) dX11_putsAll_8 rfl ?_
  refine J_geti (pc := 9) dX11_putsAll_9 kc11 fl_X11_206 rfl ?_
  refine J_cg2 (S' := imS S a 0) (by rw [imS_0]) ?_
  refine J_t1 (y := isr S 0) rfl ?_
  refine J_iload_n (pc := 12) dX11_putsAll_12 rfl ?_
  refine J_cvr (pc := 13) (N := mX11_puts) dX11_putsAll_13 ml_X11_407 cf_X11_puts cv_X11_puts (r_X11_puts_f (k := 0) ha rfl (by decide)) rfl rfl (Nat.le_of_ble_eq_true rfl) (by decide) (rv_of (ci := 11) rfl rfl rfl) ?_
  refine J_cg2 (imS_put rfl) ?_
  refine J_puti (pc := 16) dX11_putsAll_16 kc11 fl_X11_206 rfl ⟨rfl, rfl⟩ ?_
  refine J_cg2 (sF_same (S := imS S a 1) (a := 59) (k := 36) rfl) ?_
  refine J_iconst (pc := 19) (v := 0) dX11_putsAll_19 (by decide) ?_
  refine J_istore_n (pc := 20) dX11_putsAll_20 (by decide) rfl ?_
  show J g mX11_putsAll 1 [] 21 [some (.ref 59), some (.ref a), some (.int 0), some (.int (ix 0)), none] [] (hs (imS S a (0 + 1))) sz 0 0 Q
  refine dn_ind (n := 45) (P := fun i => J g mX11_putsAll 1 [] 21 [some (.ref 59), some (.ref a), some (.int 0), some (.int (ix i)), none] [] (hs (imS S a (i + 1))) sz 0 0 Q) ?_ (fun i hi ih => ?_) 0 (Nat.zero_le _)
  · refine J_iload_n (pc := 21) dX11_putsAll_21 rfl ?_
    refine J_bipush (pc := 22) (v := 45) dX11_putsAll_22 (by decide) ?_
    refine J_icmp_ge (pc := 24) (tgt := 51) dX11_putsAll_24 (by decide) (fun c24 => ?_) (fun c24 => absurd (ix_ge (n := 45) rfl) c24)
    refine J_iconst (pc := 51) (v := 0) dX11_putsAll_51 (by decide) ?_
    refine J_istore_n (pc := 52) dX11_putsAll_52 (by decide) rfl ?_
    show J g mX11_putsAll 1 [] 53 [some (.ref 59), some (.ref a), some (.int 0), some (.int (ix 0)), none] [] (hs (imS S a (46 + 45 * 0))) sz 0 0 Q
    refine dn_ind (n := 16) (P := fun w => J g mX11_putsAll 1 [] 53 [some (.ref 59), some (.ref a), some (.int 0), some (.int (ix w)), none] [] (hs (imS S a (46 + 45 * w))) sz 0 0 Q) ?_ (fun w hw ih => ?_) 0 (Nat.zero_le _)
    · refine J_iload_n (pc := 53) dX11_putsAll_53 rfl ?_
      refine J_bipush (pc := 54) (v := 16) dX11_putsAll_54 (by decide) ?_
      refine J_icmp_ge (pc := 56) (tgt := 105) dX11_putsAll_56 (by decide) (fun c56 => ?_) (fun c56 => absurd (ix_ge (n := 16) rfl) c56)
      exact J_ret (pc := 105) rfl rfl dX11_putsAll_105 (rqv hQ rfl)
    · refine J_iload_n (pc := 53) dX11_putsAll_53 rfl ?_
      refine J_bipush (pc := 54) (v := 16) dX11_putsAll_54 (by decide) ?_
      refine J_icmp_ge (pc := 56) (tgt := 105) dX11_putsAll_56 (by decide) (fun c56 => absurd c56 (ix_lt (n := 16) rfl hw (by decide))) (fun c56 => ?_)
      refine J_iconst (pc := 59) (v := 0) dX11_putsAll_59 (by decide) ?_
      refine J_istore (pc := 60) dX11_putsAll_60 (by decide) rfl ?_
      have ih0 := ih
      clear ih
      show J g mX11_putsAll 1 [] 62 [some (.ref 59), some (.ref a), some (.int 0), some (.int (ix w)), some (.int (ix 0))] [] (hs (imS S a (46 + 45 * w + 0))) sz 0 0 Q
      refine dn_ind (n := 45) (P := fun k => J g mX11_putsAll 1 [] 62 [some (.ref 59), some (.ref a), some (.int 0), some (.int (ix w)), some (.int (ix k))] [] (hs (imS S a (46 + 45 * w + k))) sz 0 0 Q) ?_ (fun k hi ih => ?_) 0 (Nat.zero_le _)
      · refine J_iload (pc := 62) dX11_putsAll_62 rfl ?_
        refine J_bipush (pc := 64) (v := 45) dX11_putsAll_64 (by decide) ?_
        refine J_icmp_ge (pc := 66) (tgt := 99) dX11_putsAll_66 (by decide) (fun c66 => ?_) (fun c66 => absurd (ix_ge (n := 45) rfl) c66)
        refine J_iinc (pc := 99) (v := 1) dX11_putsAll_99 rfl (by decide) rfl ?_
        refine J_goto (pc := 102) (tgt := 53) dX11_putsAll_102 (by decide) ?_
        refine J_forget (fun j u hu => ?_) (J_cg2 (by rw [show 46 + 45 * w + 45 = 46 + 45 * (w + 1) by omega]) ih0)
        rcases j with _ | _ | _ | _ | _ | j <;> first | exact hu | (simp at hu)
      · refine J_iload (pc := 62) dX11_putsAll_62 rfl ?_
        refine J_bipush (pc := 64) (v := 45) dX11_putsAll_64 (by decide) ?_
        refine J_icmp_ge (pc := 66) (tgt := 99) dX11_putsAll_66 (by decide) (fun c66 => absurd c66 (ix_lt (n := 45) rfl hi (by decide))) (fun c66 => ?_)
        refine J_aload_n (pc := 69) dX11_putsAll_69 rfl ?_
        refine J_getr (pc := 70) dX11_putsAll_70 kc11 fl_X11_79 rfl ?_
        refine J_iload_n (pc := 73) dX11_putsAll_73 rfl ?_
        refine J_ar1 (pc := 74) dX11_putsAll_74 rfl (by first | with_reducible rfl | assumption | exact ix_nI _ | rfl) ⟨by first | decide | omega, by decide⟩ ?_
        refine J_iload (pc := 75) dX11_putsAll_75 rfl ?_
        refine J_aload_n (pc := 77) dX11_putsAll_77 rfl ?_
        refine J_aload_n (pc := 78) dX11_putsAll_78 rfl ?_
        refine J_aload_n (pc := 79) dX11_putsAll_79 rfl ?_
        refine J_getr (pc := 80) dX11_putsAll_80 kc11 fl_X11_79 rfl ?_
        refine J_iload_n (pc := 83) dX11_putsAll_83 rfl ?_
        refine J_ar1 (pc := 84) dX11_putsAll_84 rfl (by first | with_reducible rfl | assumption | exact ix_nI _ | rfl) ⟨by first | decide | omega, by decide⟩ ?_
        refine J_iload (pc := 85) dX11_putsAll_85 rfl ?_
        refine J_il (pc := 87) dX11_putsAll_87 (lay_before (by omega)) (by first | with_reducible rfl | assumption | exact ix_nI _ | rfl) ⟨by first | decide | omega, by decide⟩ ?_
        refine J_t1 (y := isr S (46 + 45 * w + k)) (by rw [imS_o (nb w hw), isr_bef S hi]) ?_
        refine J_iload_n (pc := 88) dX11_putsAll_88 rfl ?_
        refine J_cvr (pc := 89) (N := mX11_puts) dX11_putsAll_89 ml_X11_407 cf_X11_puts cv_X11_puts (r_X11_puts_f (k := 46 + 45 * w + k) ha rfl (by omega)) rfl rfl (Nat.le_of_ble_eq_true rfl) (by decide) (rv_of (ci := 11) rfl rfl rfl) ?_
        refine J_cg2 (imS_put rfl) ?_
        refine J_is (pc := 92) dX11_putsAll_92 (lay_before (by omega)) (ix_nI k) ⟨by first | decide | omega, by decide⟩ ?_
        refine J_cg2 (sA_same (by rw [imS_o (nb w hw), isr_bef S hi])) ?_
        refine J_iinc (pc := 93) (v := 1) dX11_putsAll_93 rfl (by decide) rfl ?_
        refine J_goto (pc := 96) (tgt := 62) dX11_putsAll_96 (by decide) ?_
        exact ih
  · refine J_iload_n (pc := 21) dX11_putsAll_21 rfl ?_
    refine J_bipush (pc := 22) (v := 45) dX11_putsAll_22 (by decide) ?_
    refine J_icmp_ge (pc := 24) (tgt := 51) dX11_putsAll_24 (by decide) (fun c24 => absurd c24 (ix_lt (n := 45) rfl hi (by decide))) (fun c24 => ?_)
    refine J_aload_n (pc := 27) dX11_putsAll_27 rfl ?_
    refine J_getr (pc := 28) dX11_putsAll_28 kc11 fl_X11_73 rfl ?_
    refine J_iload_n (pc := 31) dX11_putsAll_31 rfl ?_
    refine J_aload_n (pc := 32) dX11_putsAll_32 rfl ?_
    refine J_aload_n (pc := 33) dX11_putsAll_33 rfl ?_
    refine J_aload_n (pc := 34) dX11_putsAll_34 rfl ?_
    refine J_getr (pc := 35) dX11_putsAll_35 kc11 fl_X11_73 rfl ?_
    refine J_iload_n (pc := 38) dX11_putsAll_38 rfl ?_
    refine J_il (pc := 39) dX11_putsAll_39 (by first | rfl | assumption) (by first | with_reducible rfl | assumption | exact ix_nI _ | rfl) ⟨by first | decide | omega, by decide⟩ ?_
    refine J_t1 (y := isr S (i + 1)) (by rw [imS_o n5, isr_now S hi]) ?_
    refine J_iload_n (pc := 40) dX11_putsAll_40 rfl ?_
    refine J_cvr (pc := 41) (N := mX11_puts) dX11_putsAll_41 ml_X11_407 cf_X11_puts cv_X11_puts (r_X11_puts_f (k := i + 1) ha rfl (by omega)) rfl rfl (Nat.le_of_ble_eq_true rfl) (by decide) (rv_of (ci := 11) rfl rfl rfl) ?_
    refine J_cg2 (imS_put rfl) ?_
    refine J_is (pc := 44) dX11_putsAll_44 (by first | rfl | assumption) (ix_nI i) ⟨by first | decide | omega, by decide⟩ ?_
    refine J_cg2 (sA_same (by rw [imS_o n5, isr_now S hi])) ?_
    refine J_iinc (pc := 45) (v := 1) dX11_putsAll_45 rfl (by decide) rfl ?_
    refine J_goto (pc := 48) (tgt := 21) dX11_putsAll_48 (by decide) ?_
    exact ih
