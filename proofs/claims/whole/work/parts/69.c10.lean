/-! ===== years ===== -/
def nx (x : Int32) : Int32 := x * 1103515245 + 12345
def drA (x : Int32) (n : Nat) : Nat := (x >>> ((16 : Int32) &&& 31)).toBitVec.toNat % 2 ^ 15 % n
abbrev YS : Type := Row × Int32 × Int32 × Int32
def yl1 (d : HD) (s : Nat) (z : YS) : YS := if z.1 (0 + s) = 0 ∧ kM d z.1 s ≠ 0 then (if nI (dTm d s) ≤ nI (drA (nx z.2.1) 16) then (z.1, nx z.2.1, z.2.2) else (rLap d s z.1, nx z.2.1, z.2.2.1 + 1, z.2.2.2)) else z
def ylA (d : HD) : Nat → YS → YS
  | 0, z => z
  | s + 1, z => yl1 d s (ylA d s z)
def ycq (d : HD) (z : YS) : Q4 := (3, drA (nx z.2.1) (dNr d), drA (nx (nx z.2.1)) (dNp d), 0)
def ycA (d : HD) (m : Nat) (wv : Nat → Nat × Nat) (z : YS) : YS := if 0 < dNr d ∧ 0 < dNp d then ((doA d m wv z.1 (ycq d z)).1, nx (nx z.2.1), z.2.2.1, z.2.2.2 + bI (doA d m wv z.1 (ycq d z)).2) else z
def ydA (d : HD) (m : Nat) (wv : Nat → Nat × Nat) (z : YS) : YS := (rDay (dNr d) (ycA d m wv (ylA d (dNs d) z)).1, (ycA d m wv (ylA d (dNs d) z)).2)
def yA (d : HD) (m : Nat) (wv : Nat → Nat × Nat) : Nat → YS → YS
  | 0, z => z
  | k + 1, z => ydA d m wv (yA d m wv k z)
theorem b15 : ∀ k, 15 ≤ k → k < 32 → bt 32767 k = false := by
  intro k h1 h2
  have : ∀ k, k < 32 → 15 ≤ k → bt 32767 k = false := by decide
  exact this k h2 h1
theorem dr_u (x : Int32) : ush x 16 &&& 32767 = nI ((x >>> ((16 : Int32) &&& 31)).toBitVec.toNat % 2 ^ 15) := by
  have e0 : (x >>> ((16 : Int32) &&& 31)) &&& 32767 = nI ((x >>> ((16 : Int32) &&& 31)).toBitVec.toNat % 2 ^ 15) := pk_and _ 15 rfl
  rw [← e0]
  apply bt_ext
  intro k hk
  rw [bt_and, bt_and]
  by_cases h : k < 15
  · have e : bt (ush x 16) k = bt (x >>> ((16 : Int32) &&& 31)) k := by
      have e1 : (ush x 16).toBitVec = x.toBitVec >>> (16 : Nat) := rfl
      have e2 : (x >>> ((16 : Int32) &&& 31)).toBitVec = x.toBitVec.sshiftRight 16 := rfl
      unfold bt
      rw [e1, e2, BitVec.getLsbD_ushiftRight, BitVec.getLsbD_sshiftRight, if_pos (by omega), decide_eq_false (by omega), Bool.not_false, Bool.true_and]
    rw [e]
  · have e := b15 k (by omega) hk
    rw [e, Bool.and_false, Bool.and_false]
theorem sF_s {S : Sx} {a k : Nat} {v : Int32} : sf (sF S a k v) a k = v := by simp [sF, sf, up2]
theorem drA_lt {x : Int32} {n : Nat} (h : 0 < n) : drA x n < n := Nat.mod_lt _ h
theorem DB_m {B B' : Nat} {d : HD} {f : Row} (h : DB B d f) (hb : B ≤ B') : DB B' d f := fun r hr => (h r hr).elim Or.inl (fun ⟨q, h1, h2⟩ => Or.inr ⟨q, by omega, h2⟩)
theorem DB_u {B : Nat} {d : HD} {f : Row} {k : Nat} {v : Int32} (h : DB B d f) (hk : ∀ r, r < dNr d → 16 + r ≠ k) : DB B d (upd f k v) := fun r hr => by rw [pk_un (hk r hr)]; exact h r hr
theorem DB_lap {B s : Nat} {d : HD} {f : Row} (h : DB B d f) (hB : B < 2 ^ 30) (hs : s < 8) : DB B d (rLap d s f) := by
  refine DB_u (fun r hr => ?_) (fun r hr => by omega)
  unfold lapF
  rcases h r hr with e | ⟨q, h1, h2⟩
  · rw [if_neg (fun z => z.2.2.2 e)]; exact Or.inl e
  · by_cases c : 16 ≤ 16 + r ∧ 16 + r < 16 + dNr d ∧ dOw d (16 + r - 16) = s ∧ f (16 + r) ≠ -1
    · rw [if_pos c, h2, show (2 : Int32) = nI 2 from rfl, pk_div (by omega) (by omega) (by omega)]
      exact Or.inr ⟨q / 2, by omega, rfl⟩
    · rw [if_neg c]; exact Or.inr ⟨q, h1, h2⟩
theorem DB_day {B : Nat} {d : HD} {f : Row} (h : DB B d f) (h10 : dNr d ≤ 10) : DB (B + 1) d (rDay (dNr d) f) := by
  refine DB_u (fun r hr => ?_) (fun r hr => by omega)
  unfold dayF
  rw [if_pos (by omega)]
  rcases h r hr with e | ⟨q, h1, h2⟩
  · rw [if_neg (fun z => z e), Int32.add_zero]; exact Or.inl e
  · by_cases c : f (16 + r) = -1
    · rw [if_neg (fun z => z c), Int32.add_zero]; exact Or.inl c
    · rw [if_pos c, h2, nI_1]; exact Or.inr ⟨q + 1, by omega, rfl⟩
theorem DB_cur {B r p : Nat} {d : HD} {f : Row} (h : DB B d f) (h10 : dNr d ≤ 10) : DB B d (rCur r p f) := DB_u (DB_u h (fun r hr => by omega)) (fun r hr => by omega)
theorem CX_F {S : Sx} {c e i a b m x k : Nat} {v : Int32} {d : HD} {wv : Nat → Nat × Nat} {f : Row} (hX : CX S c e i a b d m wv f) (hx : (x = 28 ∨ x = 18 ∨ x = 23 ∨ x = 24 ∨ x = 0 ∨ x = 1 ∨ x = 59)) : CX (sF S x k v) c e i a b d m wv f := by
  obtain ⟨hCL, hHL, hLL, hp2, hp3, hHC, hv, hW, hLC, hRC⟩ := hX
  have ha : a ≠ x := by rcases hHL with rfl | rfl <;> omega
  have hb : b ≠ x := by rcases hLL with rfl | rfl <;> omega
  refine ⟨hCL, hHL, hLL, hp2, hp3, ⟨?_, ?_, ?_, hHC.2.2.2⟩, hv, hW, ⟨?_, hLC.2⟩, hRC⟩
  · exact (congrFun (up2_o ha) 8).trans hHC.1
  · exact (congrFun (up2_o ha) 9).trans hHC.2.1
  · exact (congrFun (up2_o ha) 10).trans hHC.2.2.1
  · exact (congrFun (up2_o hb) 2).trans hLC.1
theorem CX_AA0 {S : Sx} {c e i a b m : Nat} {d : HD} {wv : Nat → Nat × Nat} {f' c' : Row} (hCL : CLa c e i) (hHL : HLa a) (hLL : LLa b) (hp2 : sp S c 2 = a) (hp3 : sp S c 3 = b) (hHC : HC S a d) (hv : HV d) (hW : LawW m wv) (hLC : LC S b m wv) (h : RC d c' f') : CX (sAA S e c') c e i a b d m wv f' := by
  have hn : ∀ q, 1 ≤ q → q ≤ 8 → a + q ≠ e := by
    intro q h1 h2
    rcases hCL with ⟨rfl, rfl, rfl⟩ | ⟨rfl, rfl, rfl⟩ <;> rcases hHL with rfl | rfl <;> omega
  have hb : b + 1 ≠ e := by
    rcases hCL with ⟨rfl, rfl, rfl⟩ | ⟨rfl, rfl, rfl⟩ <;> rcases hLL with rfl | rfl <;> omega
  refine ⟨hCL, hHL, hLL, hp2, hp3, ⟨hHC.1, hHC.2.1, hHC.2.2.1, fun s hs => ?_, fun r hr => ?_, fun p hp => ?_⟩, hv, hW, ⟨hLC.1, fun k hk => ?_⟩, ?_⟩
  · rw [sAA_o (hn 1 (by omega) (by omega)), sAA_o (hn 2 (by omega) (by omega)), sAA_o (hn 3 (by omega) (by omega))]
    exact hHC.2.2.2.1 s hs
  · rw [sAA_o (hn 4 (by omega) (by omega)), sAA_o (hn 5 (by omega) (by omega)), sAA_o (hn 6 (by omega) (by omega))]
    exact hHC.2.2.2.2.1 r hr
  · rw [sAA_o (hn 7 (by omega) (by omega)), sAA_o (hn 8 (by omega) (by omega))]
    exact hHC.2.2.2.2.2 p hp
  · rw [sAA_o hb]
    exact hLC.2 k hk
  · rw [sAA_s]
    exact h
theorem off3_AA {S X : Sx} (h : off3 S X) {a : Nat} {u : Row} (ha : scA a = true) : off3 S (sAA X a u) := ⟨h.1, h.2.1, fun b hb => (sAA_o (fun q => by subst q; rw [ha] at hb; cases hb)).trans (h.2.2.1 b hb), h.2.2.2⟩
def YI (S : Sx) (a b : Nat) (d : HD) (m : Nat) (wv : Nat → Nat × Nat) (B : Nat) (z : YS) (X : Sx) : Prop := off3 S X ∧ CX X 29 30 31 a b d m wv z.1 ∧ DB B d z.1 ∧ sf X 28 1 = z.2.1 ∧ sf X 28 3 = z.2.2.1 ∧ sf X 28 2 = z.2.2.2
theorem RC_cg {d : HD} {c c' f : Row} (h8 : dNs d ≤ 8) (h10 : dNr d ≤ 10) (h8' : dNp d ≤ 8) (h : RC d c f) (hc : ∀ k, k < 31 → c' k = c k) : RC d c' f := by
  obtain ⟨a0, a1, a2, a3, a4, a5, a6, a7, a8⟩ := h
  exact ⟨(hc 0 (by omega)).trans a0, (hc 1 (by omega)).trans a1, (hc 2 (by omega)).trans a2, (hc 3 (by omega)).trans a3, (hc 4 (by omega)).trans a4, fun r hr hq => (hc (5 + r) (by omega)).trans (a5 r hr hq), fun s hs => (hc (15 + s) (by omega)).trans (a6 s hs), fun p hp => (hc (23 + p) (by omega)).trans (a7 p hp), a8⟩
theorem r_X9_draw {g : Gp} {S : Sx} {n : Nat} {x : Int32} (hx : sf S 28 1 = x) (hn : 0 < n) (h9 : n < 100) : RT g mX9_draw 0 [.ref 28, .int (nI n)] S (some (.int (nI (drA (nx x) n)))) (sF S 28 1 (nx x)) := by
  refine RT_ofQ ⟨rfl, rfl⟩ (Nat.le_of_ble_eq_true rfl) (fun sz Q hQ => ?_)
  refine J_aload_n (pc := 0) dX9_draw_0 rfl ?_
  refine J_aload_n (pc := 1) dX9_draw_1 rfl ?_
  refine J_geti (pc := 2) dX9_draw_2 kc9 fl_X9_24 rfl ?_
  rw [hx]
  refine J_ldc (pc := 5) (v := 1103515245) dX9_draw_5 kt_X9_81 ?_
  refine J_imul (pc := 7) dX9_draw_7 ?_
  refine J_sipush (pc := 8) (v := 12345) dX9_draw_8 (by decide) ?_
  refine J_iadd (pc := 11) dX9_draw_11 ?_
  refine J_t1 (y := nx x) rfl ?_
  refine J_puti (pc := 12) dX9_draw_12 kc9 fl_X9_24 rfl ⟨rfl, rfl⟩ ?_
  refine J_iload_n (pc := 15) dX9_draw_15 rfl ?_
  refine J_if_le (pc := 16) (tgt := 35) dX9_draw_16 (by decide) (fun c16 => absurd c16 (nI_nle hn (by omega))) (fun c16 => ?_)
  refine J_aload_n (pc := 19) dX9_draw_19 rfl ?_
  refine J_geti (pc := 20) dX9_draw_20 kc9 fl_X9_24 rfl ?_
  refine J_t1 sF_s ?_
  refine J_bipush (pc := 23) (v := 16) dX9_draw_23 (by decide) ?_
  refine J_iushr (pc := 25) dX9_draw_25 ?_
  refine J_sipush (pc := 26) (v := 32767) dX9_draw_26 (by decide) ?_
  refine J_iand (pc := 29) dX9_draw_29 ?_
  refine J_t1 (dr_u _) ?_
  refine J_iload_n (pc := 30) dX9_draw_30 rfl ?_
  refine J_irem (pc := 31) dX9_draw_31 (nI_ne0 hn (by omega)) ?_
  refine J_t1 (y := nI (drA (nx x) n)) (pk_rem (by have := Nat.mod_lt ((nx x >>> ((16 : Int32) &&& 31)).toBitVec.toNat) (show 2 ^ 15 > 0 by decide); exact Nat.lt_trans this (by decide)) hn (by omega)) ?_
  refine J_goto (pc := 32) (tgt := 36) dX9_draw_32 (by decide) ?_
  exact J_iret (pc := 36) rfl rfl rfl dX9_draw_36 (rq hQ rfl rfl)
theorem r_X0_copyOf {g : Gp} {S : Sx} {a b : Nat} (hp2 : sp S 3 2 = a) (hp3 : sp S 3 3 = b) : RT g mX0_copyOf 0 [.ref 29, .ref 3] S none (sAA (sP (sP S 29 2 a) 29 3 b) 30 (va_cpy (sa S 16) (sa S 30) 0 0 31)) := by
  refine RT_ofQ ⟨rfl, rfl⟩ (Nat.le_of_ble_eq_true rfl) (fun sz Q hQ => ?_)
  refine J_aload_n (pc := 0) dX0_copyOf_0 rfl ?_
  refine J_aload_n (pc := 1) dX0_copyOf_1 rfl ?_
  refine J_getp (pc := 2) dX0_copyOf_2 kc0 fl_X0_20 (by first | exact cvn_p2 (by assumption) | rfl) ?_
  refine J_tr hp2 ?_
  refine J_putp (pc := 5) dX0_copyOf_5 kc0 fl_X0_20 (by first | exact cvn_p2 (by assumption) | rfl) ⟨rfl, rfl⟩ ?_
  refine J_aload_n (pc := 8) dX0_copyOf_8 rfl ?_
  refine J_aload_n (pc := 9) dX0_copyOf_9 rfl ?_
  refine J_getp (pc := 10) dX0_copyOf_10 kc0 fl_X0_24 (by first | exact cvn_p3 (by assumption) | rfl) ?_
  refine J_tr hp3 ?_
  refine J_putp (pc := 13) dX0_copyOf_13 kc0 fl_X0_24 (by first | exact cvn_p3 (by assumption) | rfl) ⟨rfl, rfl⟩ ?_
  refine J_aload_n (pc := 16) dX0_copyOf_16 rfl ?_
  refine J_getr (pc := 17) dX0_copyOf_17 kc0 fl_X0_11 (by first | exact cvn_r0 (by assumption) | rfl) ?_
  refine J_iconst (pc := 20) (v := 0) dX0_copyOf_20 (by decide) ?_
  refine J_aload_n (pc := 21) dX0_copyOf_21 rfl ?_
  refine J_getr (pc := 22) dX0_copyOf_22 kc0 fl_X0_11 (by first | exact cvn_r0 (by assumption) | rfl) ?_
  refine J_iconst (pc := 25) (v := 0) dX0_copyOf_25 (by decide) ?_
  refine J_bipush (pc := 26) (v := 31) dX0_copyOf_26 (by decide) ?_
  refine J_acp (pc := 28) dX0_copyOf_28 ml_acp0 rfl rfl (rfl : (0 : Int32) = nI 0) (rfl : (0 : Int32) = nI 0) (rfl : (31 : Int32) = nI 31) ⟨by decide, by decide⟩ ⟨by decide, by decide⟩ (Nat.le_of_ble_eq_true rfl) ?_
  exact J_ret (pc := 31) rfl rfl dX0_copyOf_31 (rqv hQ rfl)
theorem r_X9_drawLapses {g : Gp} {S : Sx} {a b m B : Nat} {d : HD} {wv : Nat → Nat × Nat} {z : YS} {X : Sx} (hY : YI S a b d m wv B z X) (hB : B < 2 ^ 30) : RU g mX9_drawLapses 3 [.ref 28] X (fun X => YI S a b d m wv B (ylA d (dNs d) z) X) := by
  refine RU_ofQ ⟨rfl, rfl⟩ (Nat.le_of_ble_eq_true rfl) (fun sz Q hQ => ?_)
  refine J_iconst (pc := 0) (v := 0) dX9_drawLapses_0 (by decide) ?_
  refine J_istore_n (pc := 1) dX9_drawLapses_1 (by decide) rfl ?_
  have hd8 : dNs d ≤ 8 := hY.2.1.2.2.2.2.2.2.1.1
  refine dn_ind (n := dNs d) (P := fun i => ∀ X, YI S a b d m wv B (ylA d i z) X → J g mX9_drawLapses 3 [] 2 [some (.ref 28), some (.int (ix i))] [] (hs X) sz 0 0 Q) ?_ (fun i hi ih => ?_) 0 (Nat.zero_le _) X hY
  · intro X hY
    obtain ⟨hoff, hX, hDB, y1, y3, y2⟩ := id hY
    obtain ⟨hCL, hHL, hLL, hp2, hp3, hHC, hv, hW, hLC, hRC⟩ := id hX
    have n1 : dNs d ≤ 8 := hv.1
    have n2 : dNr d ≤ 10 := hv.2.1
    have n3 : dNp d ≤ 8 := hv.2.2.1
    refine J_iload_n (pc := 2) dX9_drawLapses_2 rfl ?_
    refine J_aload_n (pc := 3) dX9_drawLapses_3 rfl ?_
    refine J_getr (pc := 4) dX9_drawLapses_4 kc9 fl_X9_14 rfl ?_
    refine J_getpN (pc := 7) dX9_drawLapses_7 kc0 fl_X9_44 (by first | exact cvn_p2 (by assumption) | rfl) ?_
    refine J_tr hp2 ?_
    refine J_getiN (pc := 10) dX9_drawLapses_10 kc1 fl_X9_48 (by first | exact hou_i8 (by assumption) | rfl) ?_
    refine J_icmp_ge (pc := 13) (tgt := 86) dX9_drawLapses_13 (by decide) (fun c13 => ?_) (fun c13 => absurd (ix_ge hHC.1) c13)
    exact J_ret (pc := 86) rfl rfl dX9_drawLapses_86 (hQ _ hY)
  · intro X hY
    obtain ⟨hoff, hX, hDB, y1, y3, y2⟩ := id hY
    obtain ⟨hCL, hHL, hLL, hp2, hp3, hHC, hv, hW, hLC, hRC⟩ := id hX
    have n1 : dNs d ≤ 8 := hv.1
    have n2 : dNr d ≤ 10 := hv.2.1
    have n3 : dNp d ≤ 8 := hv.2.2.1
    have hstep : ylA d (i + 1) z = yl1 d i (ylA d i z) := rfl
    rw [hstep] at ih
    unfold yl1 at ih
    generalize ylA d i z = u at *
    obtain ⟨f, x, l, q⟩ := u
    dsimp only at *
    obtain ⟨x1, hx1⟩ : ∃ x1, nx x = x1 := ⟨_, rfl⟩
    rw [hx1] at ih
    refine J_iload_n (pc := 2) dX9_drawLapses_2 rfl ?_
    refine J_aload_n (pc := 3) dX9_drawLapses_3 rfl ?_
    refine J_getr (pc := 4) dX9_drawLapses_4 kc9 fl_X9_14 rfl ?_
    refine J_getpN (pc := 7) dX9_drawLapses_7 kc0 fl_X9_44 (by first | exact cvn_p2 (by assumption) | rfl) ?_
    refine J_tr hp2 ?_
    refine J_getiN (pc := 10) dX9_drawLapses_10 kc1 fl_X9_48 (by first | exact hou_i8 (by assumption) | rfl) ?_
    refine J_icmp_ge (pc := 13) (tgt := 86) dX9_drawLapses_13 (by decide) (fun c13 => absurd c13 (ix_lt hHC.1 hi (by omega))) (fun c13 => ?_)
    refine J_aload_n (pc := 16) dX9_drawLapses_16 rfl ?_
    refine J_getr (pc := 17) dX9_drawLapses_17 kc9 fl_X9_14 rfl ?_
    refine J_iload_n (pc := 20) dX9_drawLapses_20 rfl ?_
    refine J_t1 (ix_nI i) ?_
    refine J_cnr (pc := 21) (N := mX0_isLiving) dX9_drawLapses_21 ml_X9_53 cf_X0_isLiving cv_X0_isLiving (r_X0_isLiving hX hi) rfl rfl (Nat.le_of_ble_eq_true rfl) (by decide) (rv_of (ci := 0) (by first | exact cvn_n (by assumption) | rfl) rfl rfl) ?_
    refine J_ifp_eq (pc := 24) (tgt := 80) dX9_drawLapses_24 (by decide) (fun c24 => ?_) (fun c24 => ?_)
    · rw [if_neg (fun z => c24 z.1)] at ih
      refine J_iinc (pc := 80) (v := 1) dX9_drawLapses_80 rfl (by decide) rfl ?_
      refine J_goto (pc := 83) (tgt := 2) dX9_drawLapses_83 (by decide) ?_
      exact ih X hY
    · refine J_aload_n (pc := 27) dX9_drawLapses_27 rfl ?_
      refine J_getr (pc := 28) dX9_drawLapses_28 kc9 fl_X9_14 rfl ?_
      refine J_iload_n (pc := 31) dX9_drawLapses_31 rfl ?_
      refine J_t1 (ix_nI i) ?_
      refine J_cnr (pc := 32) (N := mX0_keptOf) dX9_drawLapses_32 ml_X9_57 cf_X0_keptOf cv_X0_keptOf (r_X0_keptOf hX hi) rfl rfl (Nat.le_of_ble_eq_true rfl) (by decide) (rv_of (ci := 0) (by first | exact cvn_n (by assumption) | rfl) rfl rfl) ?_
      refine J_if_eq (pc := 35) (tgt := 80) dX9_drawLapses_35 (by decide) (fun c35 => ?_) (fun c35 => ?_)
      · rw [if_neg (fun z => z.2 c35)] at ih
        refine J_iinc (pc := 80) (v := 1) dX9_drawLapses_80 rfl (by decide) rfl ?_
        refine J_goto (pc := 83) (tgt := 2) dX9_drawLapses_83 (by decide) ?_
        exact ih X hY
      · rw [if_pos ⟨c24, c35⟩] at ih
        refine J_aload_n (pc := 38) dX9_drawLapses_38 rfl ?_
        refine J_bipush (pc := 39) (v := 16) dX9_drawLapses_39 (by decide) ?_
        refine J_cvr (pc := 41) (N := mX9_draw) dX9_drawLapses_41 ml_X9_61 cf_X9_draw cv_X9_draw (r_X9_draw (n := 16) y1 (by decide) (by decide)) rfl rfl (Nat.le_of_ble_eq_true rfl) (by decide) (rv_of (ci := 9) rfl rfl rfl) ?_
        rw [hx1]
        refine J_aload_n (pc := 44) dX9_drawLapses_44 rfl ?_
        refine J_getr (pc := 45) dX9_drawLapses_45 kc9 fl_X9_14 rfl ?_
        refine J_getpN (pc := 48) dX9_drawLapses_48 kc0 fl_X9_44 (by first | exact cvn_p2 (by assumption) | rfl) ?_
        refine J_tr hp2 ?_
        refine J_getrN (pc := 51) dX9_drawLapses_51 kc1 fl_X9_64 (by first | exact hou_r0 (by assumption) | rfl) ?_
        refine J_iload_n (pc := 54) dX9_drawLapses_54 rfl ?_
        refine J_il (pc := 55) dX9_drawLapses_55 (by first | exact hou_a0 (by assumption) | rfl) (ix_nI i) ⟨by first | decide | omega, by decide⟩ ?_
        refine J_t1 ((hHC.2.2.2.1 _ hi).1) ?_
        refine J_icmp_ge (pc := 56) (tgt := 80) dX9_drawLapses_56 (by decide) (fun c56 => ?_) (fun c56 => ?_)
        · rw [if_pos c56] at ih
          refine J_iinc (pc := 80) (v := 1) dX9_drawLapses_80 rfl (by decide) rfl ?_
          refine J_goto (pc := 83) (tgt := 2) dX9_drawLapses_83 (by decide) ?_
          exact ih _ ⟨off3_F hoff rfl, CX_F hX (Or.inl rfl), hDB, rfl, y3, y2⟩
        · rw [if_neg c56] at ih
          refine J_aload_n (pc := 59) dX9_drawLapses_59 rfl ?_
          refine J_getr (pc := 60) dX9_drawLapses_60 kc9 fl_X9_14 rfl ?_
          refine J_iload_n (pc := 63) dX9_drawLapses_63 rfl ?_
          refine J_t1 (ix_nI i) ?_
          refine J_cnI (pc := 64) (N := mX0_lapse) dX9_drawLapses_64 ml_X9_68 cf_X0_lapse cv_X0_lapse (r_X0_lapse (S := sF X 28 1 x1) (CX_F hX (Or.inl rfl)) hi hDB hB) rfl rfl (Nat.le_of_ble_eq_true rfl) (by decide) (rv_of (ci := 0) (by first | exact cvn_n (by assumption) | rfl) rfl rfl) ?_
          intro x64 X64 hX64
          rw [show doA d m wv f (2, i, 0, 0) = (rLap d i f, true) from if_pos ⟨c24, c35⟩] at hX64
          obtain ⟨ex, c', T, rfl, hc'⟩ := hX64
          subst ex
          refine J_if_eq (pc := 67) (tgt := 80) dX9_drawLapses_67 (by decide) (fun c67 => absurd c67 (show ¬ bI true = 0 by decide)) (fun c67 => ?_)
          refine J_aload_n (pc := 70) dX9_drawLapses_70 rfl ?_
          refine J_dup (pc := 71) dX9_drawLapses_71 rfl ?_
          refine J_geti (pc := 72) dX9_drawLapses_72 kc9 fl_X9_31 rfl ?_
          refine J_iconst (pc := 75) (v := 1) dX9_drawLapses_75 (by decide) ?_
          refine J_iadd (pc := 76) dX9_drawLapses_76 ?_
          refine J_puti (pc := 77) dX9_drawLapses_77 kc9 fl_X9_31 rfl ⟨rfl, rfl⟩ ?_
          refine J_iinc (pc := 80) (v := 1) dX9_drawLapses_80 rfl (by decide) rfl ?_
          refine J_goto (pc := 83) (tgt := 2) dX9_drawLapses_83 (by decide) ?_
          exact ih _ ⟨off3_F (off3_w1 (off3_AA (off3_F hoff rfl) rfl)) rfl, CX_F (CX_AA (S := sF X 28 1 x1) (CX_F hX (Or.inl rfl)) hc') (Or.inl rfl), DB_lap hDB hB (by omega), rfl, congrArg (fun z => z + 1) y3, y2⟩
theorem DB_cu {B r p : Nat} {d : HD} {m : Nat} {wv : Nat → Nat × Nat} {f : Row} (h : DB B d f) (h10 : dNr d ≤ 10) (hr : r < dNr d) : DB B d (doA d m wv f (3, r, p, 0)).1 := by
  show DB B d (if f (36 + p) = -1 ∧ f (26 + r) = 0 ∧ dIl d r = dPi d p ∧ nI (dPn d p) ≤ pwN d m wv f r then (rCur r p f, true) else (f, false)).1
  split
  · exact DB_cur h h10
  · exact h
theorem r_X9_drawCure {g : Gp} {S : Sx} {a b m B : Nat} {d : HD} {wv : Nat → Nat × Nat} {z : YS} {X : Sx} (hY : YI S a b d m wv B z X) (hB : B < 2 ^ 30) : RU g mX9_drawCure 6 [.ref 28] X (fun X => YI S a b d m wv B (ycA d m wv z) X) := by
  refine RU_ofQ ⟨rfl, rfl⟩ (Nat.le_of_ble_eq_true rfl) (fun sz Q hQ => ?_)
  obtain ⟨hoff, hX, hDB, y1, y3, y2⟩ := id hY
  obtain ⟨hCL, hHL, hLL, hp2, hp3, hHC, hv, hW, hLC, hRC⟩ := id hX
  have n1 : dNs d ≤ 8 := hv.1
  have n2 : dNr d ≤ 10 := hv.2.1
  have n3 : dNp d ≤ 8 := hv.2.2.1
  unfold ycA ycq at hQ
  obtain ⟨f, x, l, q⟩ := z
  dsimp only at *
  obtain ⟨x1, hx1⟩ : ∃ x1, nx x = x1 := ⟨_, rfl⟩
  obtain ⟨x2, hx2⟩ : ∃ x2, nx x1 = x2 := ⟨_, rfl⟩
  rw [hx1, hx2] at hQ
  refine J_aload_n (pc := 0) dX9_drawCure_0 rfl ?_
  refine J_getr (pc := 1) dX9_drawCure_1 kc9 fl_X9_14 rfl ?_
  refine J_getpN (pc := 4) dX9_drawCure_4 kc0 fl_X9_44 (by first | exact cvn_p2 (by assumption) | rfl) ?_
  refine J_tr hp2 ?_
  refine J_getiN (pc := 7) dX9_drawCure_7 kc1 fl_X9_71 (by first | exact hou_i9 (by assumption) | rfl) ?_
  refine J_t1 hHC.2.1 ?_
  refine J_if_le (pc := 10) (tgt := 78) dX9_drawCure_10 (by decide) (fun c10 => ?_) (fun c10 => ?_)
  · rw [if_neg (fun z => absurd c10 (nI_nle z.1 (by omega)))] at hQ
    exact J_ret (pc := 78) rfl rfl dX9_drawCure_78 (by first | exact hQ _ hY | exact hQ _ ⟨off3_w1 (off3_AA (off3_F (off3_F hoff rfl) rfl) rfl), CX_AA (S := sF (sF X 28 1 x1) 28 1 x2) (CX_F (CX_F hX (Or.inl rfl)) (Or.inl rfl)) hc', DB_cu hDB n2 (drA_lt z1), rfl, y3, y2.trans (Int32.add_zero _).symm⟩ | exact hQ _ ⟨off3_F (off3_w1 (off3_AA (off3_F (off3_F hoff rfl) rfl) rfl)) rfl, CX_F (CX_AA (S := sF (sF X 28 1 x1) 28 1 x2) (CX_F (CX_F hX (Or.inl rfl)) (Or.inl rfl)) hc') (Or.inl rfl), DB_cu hDB n2 (drA_lt z1), rfl, y3, congrArg (fun z => z + 1) y2⟩)
  · have z1 : 0 < dNr d := Nat.pos_of_ne_zero (fun z => c10 (by rw [z]; decide))
    refine J_aload_n (pc := 13) dX9_drawCure_13 rfl ?_
    refine J_getr (pc := 14) dX9_drawCure_14 kc9 fl_X9_14 rfl ?_
    refine J_getpN (pc := 17) dX9_drawCure_17 kc0 fl_X9_44 (by first | exact cvn_p2 (by assumption) | rfl) ?_
    refine J_tr hp2 ?_
    refine J_getiN (pc := 20) dX9_drawCure_20 kc1 fl_X9_74 (by first | exact hou_i10 (by assumption) | rfl) ?_
    refine J_t1 hHC.2.2.1 ?_
    refine J_if_le (pc := 23) (tgt := 78) dX9_drawCure_23 (by decide) (fun c23 => ?_) (fun c23 => ?_)
    · rw [if_neg (fun z => absurd c23 (nI_nle z.2 (by omega)))] at hQ
      exact J_ret (pc := 78) rfl rfl dX9_drawCure_78 (by first | exact hQ _ hY | exact hQ _ ⟨off3_w1 (off3_AA (off3_F (off3_F hoff rfl) rfl) rfl), CX_AA (S := sF (sF X 28 1 x1) 28 1 x2) (CX_F (CX_F hX (Or.inl rfl)) (Or.inl rfl)) hc', DB_cu hDB n2 (drA_lt z1), rfl, y3, y2.trans (Int32.add_zero _).symm⟩ | exact hQ _ ⟨off3_F (off3_w1 (off3_AA (off3_F (off3_F hoff rfl) rfl) rfl)) rfl, CX_F (CX_AA (S := sF (sF X 28 1 x1) 28 1 x2) (CX_F (CX_F hX (Or.inl rfl)) (Or.inl rfl)) hc') (Or.inl rfl), DB_cu hDB n2 (drA_lt z1), rfl, y3, congrArg (fun z => z + 1) y2⟩)
    · have z2 : 0 < dNp d := Nat.pos_of_ne_zero (fun z => c23 (by rw [z]; decide))
      rw [if_pos ⟨z1, z2⟩] at hQ
      refine J_aload_n (pc := 26) dX9_drawCure_26 rfl ?_
      refine J_aload_n (pc := 27) dX9_drawCure_27 rfl ?_
      refine J_getr (pc := 28) dX9_drawCure_28 kc9 fl_X9_14 rfl ?_
      refine J_getpN (pc := 31) dX9_drawCure_31 kc0 fl_X9_44 (by first | exact cvn_p2 (by assumption) | rfl) ?_
      refine J_tr hp2 ?_
      refine J_getiN (pc := 34) dX9_drawCure_34 kc1 fl_X9_71 (by first | exact hou_i9 (by assumption) | rfl) ?_
      refine J_t1 hHC.2.1 ?_
      refine J_cvr (pc := 37) (N := mX9_draw) dX9_drawCure_37 ml_X9_61 cf_X9_draw cv_X9_draw (r_X9_draw y1 z1 (by omega)) rfl rfl (Nat.le_of_ble_eq_true rfl) (by decide) (rv_of (ci := 9) rfl rfl rfl) ?_
      rw [hx1]
      have hX1 := CX_F (k := 1) (v := x1) hX (Or.inl rfl)
      obtain ⟨_, _, _, hp2, hp3, hHC, _, _, _, hRC⟩ := id hX1
      refine J_istore_n (pc := 40) dX9_drawCure_40 (by decide) rfl ?_
      refine J_aload_n (pc := 41) dX9_drawCure_41 rfl ?_
      refine J_aload_n (pc := 42) dX9_drawCure_42 rfl ?_
      refine J_getr (pc := 43) dX9_drawCure_43 kc9 fl_X9_14 rfl ?_
      refine J_getpN (pc := 46) dX9_drawCure_46 kc0 fl_X9_44 (by first | exact cvn_p2 (by assumption) | rfl) ?_
      refine J_tr hp2 ?_
      refine J_getiN (pc := 49) dX9_drawCure_49 kc1 fl_X9_74 (by first | exact hou_i10 (by assumption) | rfl) ?_
      refine J_t1 hHC.2.2.1 ?_
      refine J_cvr (pc := 52) (N := mX9_draw) dX9_drawCure_52 ml_X9_61 cf_X9_draw cv_X9_draw (r_X9_draw (x := x1) rfl z2 (by omega)) rfl rfl (Nat.le_of_ble_eq_true rfl) (by decide) (rv_of (ci := 9) rfl rfl rfl) ?_
      rw [hx2]
      refine J_istore_n (pc := 55) dX9_drawCure_55 (by decide) rfl ?_
      refine J_aload_n (pc := 56) dX9_drawCure_56 rfl ?_
      refine J_getr (pc := 57) dX9_drawCure_57 kc9 fl_X9_14 rfl ?_
      refine J_iload_n (pc := 60) dX9_drawCure_60 rfl ?_
      refine J_iload_n (pc := 61) dX9_drawCure_61 rfl ?_
      refine J_cnI (pc := 62) (N := mX0_cure) dX9_drawCure_62 ml_X9_77 cf_X0_cure cv_X0_cure (r_X0_cure (S := sF (sF X 28 1 x1) 28 1 x2) (CX_F (CX_F hX (Or.inl rfl)) (Or.inl rfl)) (drA_lt z1) (drA_lt z2) (sF (sF X 28 1 x1) 28 1 x2)) rfl rfl (Nat.le_of_ble_eq_true rfl) (by decide) (rv_of (ci := 0) (by first | exact cvn_n (by assumption) | rfl) rfl rfl) ?_
      intro x62 X62 hX62
      obtain ⟨ex, c', T, rfl, hc'⟩ := hX62
      subst ex
      refine J_if_eq (pc := 65) (tgt := 78) dX9_drawCure_65 (by decide) (fun c65 => ?_) (fun c65 => ?_)
      · have ef := bI_0.mp c65
        rw [ef] at hQ
        exact J_ret (pc := 78) rfl rfl dX9_drawCure_78 (by first | exact hQ _ hY | exact hQ _ ⟨off3_w1 (off3_AA (off3_F (off3_F hoff rfl) rfl) rfl), CX_AA (S := sF (sF X 28 1 x1) 28 1 x2) (CX_F (CX_F hX (Or.inl rfl)) (Or.inl rfl)) hc', DB_cu hDB n2 (drA_lt z1), rfl, y3, y2.trans (Int32.add_zero _).symm⟩ | exact hQ _ ⟨off3_F (off3_w1 (off3_AA (off3_F (off3_F hoff rfl) rfl) rfl)) rfl, CX_F (CX_AA (S := sF (sF X 28 1 x1) 28 1 x2) (CX_F (CX_F hX (Or.inl rfl)) (Or.inl rfl)) hc') (Or.inl rfl), DB_cu hDB n2 (drA_lt z1), rfl, y3, congrArg (fun z => z + 1) y2⟩)
      · have ef := bI_1.mp c65
        rw [ef] at hQ
        refine J_aload_n (pc := 68) dX9_drawCure_68 rfl ?_
        refine J_dup (pc := 69) dX9_drawCure_69 rfl ?_
        refine J_geti (pc := 70) dX9_drawCure_70 kc9 fl_X9_28 rfl ?_
        refine J_iconst (pc := 73) (v := 1) dX9_drawCure_73 (by decide) ?_
        refine J_iadd (pc := 74) dX9_drawCure_74 ?_
        refine J_puti (pc := 75) dX9_drawCure_75 kc9 fl_X9_28 rfl ⟨rfl, rfl⟩ ?_
        exact J_ret (pc := 78) rfl rfl dX9_drawCure_78 (by first | exact hQ _ hY | exact hQ _ ⟨off3_w1 (off3_AA (off3_F (off3_F hoff rfl) rfl) rfl), CX_AA (S := sF (sF X 28 1 x1) 28 1 x2) (CX_F (CX_F hX (Or.inl rfl)) (Or.inl rfl)) hc', DB_cu hDB n2 (drA_lt z1), rfl, y3, y2.trans (Int32.add_zero _).symm⟩ | exact hQ _ ⟨off3_F (off3_w1 (off3_AA (off3_F (off3_F hoff rfl) rfl) rfl)) rfl, CX_F (CX_AA (S := sF (sF X 28 1 x1) 28 1 x2) (CX_F (CX_F hX (Or.inl rfl)) (Or.inl rfl)) hc') (Or.inl rfl), DB_cu hDB n2 (drA_lt z1), rfl, y3, congrArg (fun z => z + 1) y2⟩)
theorem r_X9_pass {g : Gp} {S : Sx} {x : Int32} {days B : Nat} {a b m : Nat} {d : HD} {wv : Nat → Nat × Nat} {f : Row} (hX : CX S 3 16 17 a b d m wv f) (hDB : DB B d f) (hB : B < 2 ^ 20) (hdy : days ≤ 96) : RU g mX9_pass 7 [.ref 28, .ref 3, .int x, .int (nI days)] S (YI S a b d m wv (B + days) (yA d m wv days (f, x, 0, 0))) := by
  refine RU_ofQ ⟨rfl, rfl⟩ (Nat.le_of_ble_eq_true rfl) (fun sz Q hQ => ?_)
  obtain ⟨hCL, hHL, hLL, hp2, hp3, hHC, hv, hW, hLC, hRC⟩ := id hX
  have n1 : dNs d ≤ 8 := hv.1
  have n2 : dNr d ≤ 10 := hv.2.1
  have n3 : dNp d ≤ 8 := hv.2.2.1
  refine J_aload_n (pc := 0) dX9_pass_0 rfl ?_
  refine J_getr (pc := 1) dX9_pass_1 kc9 fl_X9_14 rfl ?_
  refine J_aload_n (pc := 4) dX9_pass_4 rfl ?_
  refine J_cnv (pc := 5) (N := mX0_copyOf) dX9_pass_5 ml_X9_20 cf_X0_copyOf cv_X0_copyOf (r_X0_copyOf hp2 hp3) rfl rfl (Nat.le_of_ble_eq_true rfl) (by decide) (rv_of (ci := 0) (by first | exact cvn_n (by assumption) | rfl) rfl rfl) ?_
  refine J_aload_n (pc := 8) dX9_pass_8 rfl ?_
  refine J_iload_n (pc := 9) dX9_pass_9 rfl ?_
  refine J_puti (pc := 10) dX9_pass_10 kc9 fl_X9_24 rfl ⟨rfl, rfl⟩ ?_
  refine J_aload_n (pc := 13) dX9_pass_13 rfl ?_
  refine J_iconst (pc := 14) (v := 0) dX9_pass_14 (by decide) ?_
  refine J_puti (pc := 15) dX9_pass_15 kc9 fl_X9_28 rfl ⟨rfl, rfl⟩ ?_
  refine J_aload_n (pc := 18) dX9_pass_18 rfl ?_
  refine J_iconst (pc := 19) (v := 0) dX9_pass_19 (by decide) ?_
  refine J_puti (pc := 20) dX9_pass_20 kc9 fl_X9_31 rfl ⟨rfl, rfl⟩ ?_
  refine J_iconst (pc := 23) (v := 0) dX9_pass_23 (by decide) ?_
  refine J_istore (pc := 24) dX9_pass_24 (by decide) rfl ?_
  have hY0 : YI S a b d m wv (B + 0) (yA d m wv 0 (f, x, 0, 0)) (sF (sF (sF (sAA (sP (sP S 29 2 a) 29 3 b) 30 (va_cpy (sa S 16) (sa S 30) 0 0 31)) 28 1 x) 28 2 0) 28 3 0) := by
    have h0 : off3 S (sP (sP S 29 2 a) 29 3 b) := ⟨fun _ _ _ => rfl, fun q k hq => (congrFun (up2_o (f := sp (sP S 29 2 a)) hq) k).trans (congrFun (up2_o (f := sp S) hq) k), fun _ _ => rfl, rfl⟩
    refine ⟨off3_F (off3_F (off3_F (off3_AA h0 rfl) rfl) rfl) rfl, CX_F (CX_F (CX_F ?_ (Or.inl rfl)) (Or.inl rfl)) (Or.inl rfl), hDB, rfl, rfl, rfl⟩
    refine CX_AA0 (S := sP (sP S 29 2 a) 29 3 b) (c := 29) (i := 31) (Or.inr ⟨rfl, rfl, rfl⟩) hHL hLL rfl rfl hHC hv hW hLC (RC_cg n1 n2 n3 hRC (fun k hk => ?_))
    unfold va_cpy
    rw [if_pos (by omega)]
    congr 1
    omega
  refine dn_ind (n := days) (P := fun i => ∀ X, YI S a b d m wv (B + i) (yA d m wv i (f, x, 0, 0)) X → J g mX9_pass 7 [] 26 [some (.ref 28), some (.ref 3), some (.int x), some (.int (nI days)), some (.int (ix i))] [] (hs X) sz 0 0 Q) ?_ (fun i hi ih => ?_) 0 (Nat.zero_le _) _ hY0
  · intro X hY
    refine J_iload (pc := 26) dX9_pass_26 rfl ?_
    refine J_iload_n (pc := 28) dX9_pass_28 rfl ?_
    refine J_icmp_ge (pc := 29) (tgt := 54) dX9_pass_29 (by decide) (fun c29 => ?_) (fun c29 => absurd (ix_ge rfl) c29)
    exact J_ret (pc := 54) rfl rfl dX9_pass_54 (hQ _ hY)
  · intro X hY
    refine J_iload (pc := 26) dX9_pass_26 rfl ?_
    refine J_iload_n (pc := 28) dX9_pass_28 rfl ?_
    refine J_icmp_ge (pc := 29) (tgt := 54) dX9_pass_29 (by decide) (fun c29 => absurd c29 (ix_lt rfl hi (by omega))) (fun c29 => ?_)
    refine J_aload_n (pc := 32) dX9_pass_32 rfl ?_
    refine J_cvU (pc := 33) (N := mX9_drawLapses) dX9_pass_33 ml_X9_34 cf_X9_drawLapses cv_X9_drawLapses (r_X9_drawLapses hY (by omega)) rfl rfl (Nat.le_of_ble_eq_true rfl) (by decide) (rv_of (ci := 9) rfl rfl rfl) ?_
    intro X33 hX33
    refine J_aload_n (pc := 36) dX9_pass_36 rfl ?_
    refine J_cvU (pc := 37) (N := mX9_drawCure) dX9_pass_37 ml_X9_37 cf_X9_drawCure cv_X9_drawCure (r_X9_drawCure hX33 (by omega)) rfl rfl (Nat.le_of_ble_eq_true rfl) (by decide) (rv_of (ci := 9) rfl rfl rfl) ?_
    intro X37 hX37
    obtain ⟨hoff, hX, hDB, y1, y3, y2⟩ := id hX37
    refine J_aload_n (pc := 40) dX9_pass_40 rfl ?_
    refine J_getr (pc := 41) dX9_pass_41 kc9 fl_X9_14 rfl ?_
    refine J_cnI (pc := 44) (N := mX0_passDay) dX9_pass_44 ml_X9_40 cf_X0_passDay cv_X0_passDay (r_X0_passDay hX hDB (by omega)) rfl rfl (Nat.le_of_ble_eq_true rfl) (by decide) (rv_of (ci := 0) (by first | exact cvn_n (by assumption) | rfl) rfl rfl) ?_
    intro x44 X44 hX44
    obtain ⟨ex, c', T, rfl, hc'⟩ := hX44
    subst ex
    refine J_pop (pc := 47) dX9_pass_47 rfl ?_
    refine J_iinc (pc := 48) (v := 1) dX9_pass_48 rfl (by decide) rfl ?_
    refine J_goto (pc := 51) (tgt := 26) dX9_pass_51 (by decide) ?_
    exact ih _ ⟨off3_w1 (off3_AA hoff rfl), CX_AA hX hc', DB_day hDB n2, y1, y3, y2⟩
