/-! ===== feeding ===== -/
def eF (a k : Nat) : Bool := (a == 1 && k == 1) || (a == 59 && (k == 0 || k == 1))
def eA (a : Nat) : Bool := a == 2 || a == 60
section FEE
variable {S X : Sx} {t : Nat}
theorem ptS_F {x : Int32} (h : FRM eF eA S X) : ∀ i, FRM eF eA S (ptS X t x i)
  | 0 => h
  | i + 1 => FRM_F (FRM_A (ptS_F h i) rfl) rfl
theorem fdS_F {v : Nat → Int32} (h : FRM eF eA S X) : ∀ i, FRM eF eA S (fdS X t v i)
  | 0 => h
  | i + 1 => FRM_F (FRM_A (fdS_F h i) rfl) rfl
def by1 (x : Int32) (i : Nat) : Int32 := (x >>> (nI (24 - 8 * i) &&& 31)).toInt8.toInt32
theorem ptS_2 {x : Int32} : ∀ i k, sa (ptS S t x i) 2 k = if t ≤ k ∧ k < t + i then by1 x (k - t) else sa S 2 k
  | 0, k => by rw [if_neg (by omega)]; rfl
  | i + 1, k => by
    show sa (sF (sA (ptS S t x i) 2 (t + i) (by1 x i)) 1 1 (nI (t + i + 1))) 2 k = _
    rw [sa_F]
    by_cases e : k = t + i
    · subst e
      rw [sA_s, if_pos (by omega), Nat.add_sub_cancel_left]
    · rw [sA_n e, ptS_2 i k]
      by_cases c : t ≤ k ∧ k < t + i
      · rw [if_pos c, if_pos (by omega)]
      · rw [if_neg c, if_neg (by omega)]
theorem ptS_60 {x : Int32} {b : Nat} (hb : b ≠ 2) : ∀ i, sa (ptS S t x i) b = sa S b
  | 0 => rfl
  | i + 1 => by
    show sa (sF (sA (ptS S t x i) 2 (t + i) (by1 x i)) 1 1 (nI (t + i + 1))) b = _
    rw [sa_F, sA_o hb, ptS_60 hb i]
theorem fdS_60 {v : Nat → Int32} : ∀ i k, sa (fdS S t v i) 60 k = if t ≤ k ∧ k < t + i then v (k - t) else sa S 60 k
  | 0, k => by rw [if_neg (by omega)]; rfl
  | i + 1, k => by
    show sa (sF (sA (fdS S t v i) 60 (t + i) (v i)) 59 1 (nI (t + i) + 1)) 60 k = _
    rw [sa_F]
    by_cases e : k = t + i
    · subst e
      rw [sA_s, if_pos (by omega), Nat.add_sub_cancel_left]
    · rw [sA_n e, fdS_60 i k]
      by_cases c : t ≤ k ∧ k < t + i
      · rw [if_pos c, if_pos (by omega)]
      · rw [if_neg c, if_neg (by omega)]
theorem fdS_2 {v : Nat → Int32} {b : Nat} (hb : b ≠ 60) : ∀ i, sa (fdS S t v i) b = sa S b
  | 0 => rfl
  | i + 1 => by
    show sa (sF (sA (fdS S t v i) 60 (t + i) (v i)) 59 1 (nI (t + i) + 1)) b = _
    rw [sa_F, sA_o hb, fdS_2 hb i]
def bb (x : Int32) (i : Nat) : Nat := (x >>> (nI (24 - 8 * i) &&& 31)).toBitVec.toNat % 256
theorem b8_of (y : Int32) : y.toInt8.toInt32 = b8 (y.toBitVec.toNat % 256) := by
  unfold b8
  have : y.toInt8 = (nI (y.toBitVec.toNat % 256)).toInt8 := by
    apply Int8.toBitVec_inj.mp
    show y.toBitVec.signExtend 8 = (BitVec.ofNat 32 (y.toBitVec.toNat % 256)).signExtend 8
    apply BitVec.eq_of_getLsbD_eq
    intro i hi
    rw [BitVec.getLsbD_signExtend, BitVec.getLsbD_signExtend, decide_eq_true hi, if_pos (by omega), if_pos (by omega), BitVec.getLsbD_ofNat, decide_eq_true (by omega : i < 32), show (256 : Nat) = 2 ^ 8 from rfl, Nat.testBit_mod_two_pow, decide_eq_true hi]
    rfl
  rw [this]
theorem and_of (y : Int32) : y &&& 255 = nI (y.toBitVec.toNat % 256) := pk_and _ 8 rfl
def xv (a b c d e : Int32) (i : Nat) : Int32 := if 4 ≤ i then (if 8 ≤ i then (if 12 ≤ i then (if 16 ≤ i then e else d) else c) else b) else a
theorem ge_20 : ∀ i, i < 20 → (((4 : Int32) ≤ ix i ↔ 4 ≤ i) ∧ ((8 : Int32) ≤ ix i ↔ 8 ≤ i) ∧ ((12 : Int32) ≤ ix i ↔ 12 ≤ i) ∧ ((16 : Int32) ≤ ix i ↔ 16 ≤ i)) ∧ (24 - 8 * (ix i - ix i / 4 * 4)) &&& 31 = nI (24 - 8 * (i % 4)) &&& 31 := by decide
theorem fb_e {a b c d e : Int32} {i : Nat} (h : i < 20) : fb a b c d e i = nI (bb (xv a b c d e i) (i % 4)) := by
  obtain ⟨⟨h1, h2, h3, h4⟩, h5⟩ := ge_20 i h
  unfold fb
  rw [h5, and_of]
  have : fv a b c d e i = xv a b c d e i := by
    unfold fv xv
    simp only [h1, h2, h3, h4]
  rw [this]
  rfl
theorem fc_2 {a b c d e : Int32} (k : Nat) : sa (fcS S t a b c d e) 2 k = if t ≤ k ∧ k < t + 20 then b8 (bb (xv a b c d e (k - t)) ((k - t) % 4)) else sa S 2 k := by
  unfold fcS
  rw [ptS_2, ptS_2, ptS_2, ptS_2, ptS_2]
  have hb : ∀ x i, by1 x i = b8 (bb x i) := fun x i => b8_of _
  by_cases c0 : t ≤ k ∧ k < t + 20
  · rw [if_pos c0]
    unfold xv
    by_cases c4 : 16 ≤ k - t
    · rw [if_pos (by omega), if_pos (by omega), if_pos (by omega), if_pos (by omega), if_pos (by omega), hb, show k - (t + 16) = (k - t) % 4 by omega]
    · rw [if_neg (by omega)]
      by_cases c3 : 12 ≤ k - t
      · rw [if_pos (by omega), if_pos (by omega), if_pos (by omega), if_pos (by omega), if_neg c4, hb, show k - (t + 12) = (k - t) % 4 by omega]
      · rw [if_neg (by omega)]
        by_cases c2 : 8 ≤ k - t
        · rw [if_pos (by omega), if_pos (by omega), if_pos (by omega), if_neg c3, hb, show k - (t + 8) = (k - t) % 4 by omega]
        · rw [if_neg (by omega)]
          by_cases c1 : 4 ≤ k - t
          · rw [if_pos (by omega), if_pos (by omega), if_neg c2, hb, show k - (t + 4) = (k - t) % 4 by omega]
          · rw [if_neg (by omega), if_pos (by omega), if_neg c1, hb, show (k - t) % 4 = k - t by omega]
  · rw [if_neg c0, if_neg (by omega), if_neg (by omega), if_neg (by omega), if_neg (by omega), if_neg (by omega)]
end FEE
theorem st_feed {g : Gp} {S : Sx} (hl : (gl g).stackTraces = false) (hI : INV S) (x1 x2 x3 x4 x5 : Int32) : SP g INV mX10_feed mX11_feed [.int x1, .int x2, .int x3, .int x4, .int x5] S := by
  obtain ⟨p, hB⟩ := hI
  obtain ⟨c1, c2, c3, c4, c5, c6, c7, c8⟩ := id hB
  obtain ⟨t, ht⟩ : ∃ t, pt p = t := ⟨_, rfl⟩
  rw [ht] at c5
  obtain ⟨t6, t1, t2, t3⟩ := id c5
  by_cases h6 : t + 20 ≤ 600
  · refine ⟨1, 0, _, by decide, by decide, RI_RT (r_X10_feed t1 h6), fun x X hP => ?_⟩
    obtain ⟨rfl, hX⟩ := hP
    have fX : FRM eF eA S X := by
      rw [hX]
      exact ptS_F (ptS_F (ptS_F (ptS_F (ptS_F (FRM_r eF eA S) 4) 4) 4) 4) 4
    have xt : sf X 59 1 = nI t := by
      rw [hX]
      have k1 : ∀ {Y : Sx} {u : Nat} {x : Int32} (i : Nat), sf (ptS Y u x i) 59 1 = sf Y 59 1 := by
        intro Y u x i
        induction i with
        | zero => rfl
        | succ i ih =>
          show sf (sF (sA (ptS Y u x i) 2 (u + i) (by1 x i)) 1 1 (nI (u + i + 1))) 59 1 = _
          rw [sf_o (by decide)]
          exact ih
      unfold fcS
      rw [k1, k1, k1, k1, k1]
      exact t2
    have x11 : sf X 1 1 = nI (t + 20) := by
      rw [hX]
      exact ptS_t (ptS_t (ptS_t (ptS_t (ptS_t t1 4) 4) 4) 4) 4
    refine RI_m (RI_RT (r_X11_feed xt h6)) (fun y Z ⟨e1, e2⟩ => ⟨e1.symm, ?_⟩)
    have fZ : FRM eF eA S Z := by
      rw [e2]
      exact fdS_F (FRM_F fX rfl) 20
    have hv : HV (pd p) := bhv hB
    have hW : LawW (pm p) (pw p) := bW hB
    have sp3 : sp Z = sp S := fZ.2.1
    have z16 : sa Z 16 = sa S 16 := fZ.2.2 16 rfl
    have z535 : sa Z 535 = sa S 535 := fZ.2.2 535 rfl
    refine ⟨(p.1, pd p, pm p, pw p, pl p, t + 20, fun k => if t ≤ k ∧ k < t + 20 then bb (xv x1 x2 x3 x4 x5 (k - t)) ((k - t) % 4) else pc' p k, pk p, pi' p, ps' p), CX_r (eqR_M fZ (fun a k => by simp [fCX, eF]; omega) (fun a => by simp [aCX, eA]; omega)) (by rw [sp3]) (by rw [sp3]) (by rw [z16, z535]; exact (bRG hB).1) c1, IP_r (fun k => by rw [sp3]) c2, IM_r (eqR_M fZ (fun a k => by simp [fIM, eF]; omega) (fun a => by simp [aIM, hgR, eA]; omega)) hv hW (by rw [z535]; exact (bRG hB).2.1) (by rw [z535]; exact (bRG hB).2.2) c3, IL_r (eqR_M fZ (fun a k => by simp [fIL, eF]; omega) (fun a => by simp [aIL, eA]; omega)) c2.2.2.2.2.2.2.1 hv c4, ?_, ?_, IW_r (eqR_M fZ (fun a k => by simp [fIW, eF]; omega) (fun a => by simp [aIW, eA]; omega)) c7, II_r (eqR_M fZ (fun a k => by simp [fII, eF]; omega) (fun a => by simp [aII, eA]; omega)) hv c8⟩
    · refine ⟨h6, ?_, ?_, fun k hk => ?_⟩
      · show sf Z 1 1 = nI (t + 20)
        rw [e2]
        have k1 : ∀ {Y : Sx} {u : Nat} {v : Nat → Int32} (i : Nat), sf (fdS Y u v i) 1 1 = sf Y 1 1 := by
          intro Y u v i
          induction i with
          | zero => rfl
          | succ i ih =>
            show sf (sF (sA (fdS Y u v i) 60 (u + i) (v i)) 59 1 (nI (u + i) + 1)) 1 1 = _
            rw [sf_o (by decide)]
            exact ih
        rw [k1]
        show sf (sF X 59 0 0) 1 1 = _
        rw [sf_o (by decide), x11]
      · rw [e2]
        exact fdS_t (S := S0 X) (by show sf (sF X 59 0 0) 59 1 = _; rw [sf_o (by decide), xt]) 20
      · have hk : k < t + 20 := hk
        have a2 : sa Z 2 k = if t ≤ k ∧ k < t + 20 then b8 (bb (xv x1 x2 x3 x4 x5 (k - t)) ((k - t) % 4)) else sa S 2 k := by
          rw [e2, fdS_2 (by decide)]
          show sa (sF X 59 0 0) 2 k = _
          rw [sa_F, hX, fc_2]
        have a60 : sa Z 60 k = if t ≤ k ∧ k < t + 20 then fb x1 x2 x3 x4 x5 (k - t) else sa S 60 k := by
          rw [e2, fdS_60]
          have : sa (S0 X) 60 = sa S 60 := by
            show sa (sF X 59 0 0) 60 = _
            rw [sa_F, hX]
            unfold fcS
            rw [ptS_60 (by decide), ptS_60 (by decide), ptS_60 (by decide), ptS_60 (by decide), ptS_60 (by decide)]
          rw [this]
        show sa Z 2 k = b8 (if t ≤ k ∧ k < t + 20 then bb (xv x1 x2 x3 x4 x5 (k - t)) ((k - t) % 4) else pc' p k) ∧ sa Z 60 k = nI (if t ≤ k ∧ k < t + 20 then bb (xv x1 x2 x3 x4 x5 (k - t)) ((k - t) % 4) else pc' p k) ∧ (if t ≤ k ∧ k < t + 20 then bb (xv x1 x2 x3 x4 x5 (k - t)) ((k - t) % 4) else pc' p k) < 256
        rw [a2, a60]
        by_cases c : t ≤ k ∧ k < t + 20
        · rw [if_pos c, if_pos c, if_pos c, fb_e (by omega)]
          exact ⟨rfl, rfl, Nat.mod_lt _ (by decide)⟩
        · rw [if_neg c, if_neg c, if_neg c]
          exact t3 k (by omega)
    · obtain ⟨i1, i2, i3, i4⟩ := c6
      exact ⟨(fZ.1 1 6 rfl).trans (i1.trans (fZ.1 59 3 rfl).symm), (fZ.1 0 13 rfl).trans (i2.trans (fZ.1 59 37 rfl).symm), (fZ.1 0 14 rfl).trans (i3.trans (by rw [fZ.2.2 61 rfl])), (fZ.1 0 15 rfl).trans (i4.trans (by rw [fZ.2.2 61 rfl]))⟩
  · exact sp_q (d1 := 1) (d2 := 0) hB (by decide) (by decide) (qT (r_X10_feed_no t1 t6 h6)) (fun Y hY hBY => mT (r_X11_feed_no (t := t) (by rw [← ht]; exact hBY.2.2.2.2.1.2.2.1) t6 h6))
