/-! ===== images ===== -/
def vF (a k : Nat) : Bool := ((a == 53 || a == 55 || a == 57) && k == 3) || (a == 34 && k == 3) || (a == 59 && (k == 0 || k == 38 || k == 39))
def vA (a : Nat) : Bool := a == 54 || a == 56 || a == 58 || a == 35 || (555 ≤ a && a < 558)
theorem st_image {g : Gp} {S : Sx} (hl : (gl g).stackTraces = false) (hI : INV S) : SP g INV mX10_image mX11_image [] S := by
  obtain ⟨p, hB⟩ := hI
  obtain ⟨c1, c2, c3, c4, c5, c6, c7, c8⟩ := id hB
  by_cases h0 : pi' p = 3
  · exact sp_q (d1 := 1) (d2 := 2) hB (by decide) (by decide) (qT (r_X10_image_no c8.1 (by rw [c8.2.2.2.1, h0]; rfl))) (fun Y hY hBY => mT (r_X11_image_no (by rw [hBY.2.2.2.2.2.2.2.2.2.2.2.1, h0]; rfl)))
  · obtain ⟨q, hq⟩ : ∃ q, pi' p = q := ⟨_, rfl⟩
    obtain ⟨w, hw⟩ : ∃ w, pk p = w := ⟨_, rfl⟩
    have h3 : q < 3 := by have := c8.2.2.1; omega
    have hw16 : w ≤ 16 := by have := c7.2.2.1; omega
    have n3 := c8.2.2.2.1
    rw [hq] at n3
    have n4 := c7.2.2.2.1
    rw [hw] at n4
    refine ⟨1, 2, _, by decide, by decide, RI_RT (r_X10_image c8.1 c8.2.1 c7.1 c7.2.1 (c8.2.2.2.2.2.1 q h3).1 (c8.2.2.2.2.2.1 q h3).2 n3 h3 n4 hw16), fun x X hP => ?_⟩
    obtain ⟨rfl, hX⟩ := hP
    unfold imC at hX
    have v1 : vF (53 + 2 * q) 3 = true := sh3 (P := fun q => vF (53 + 2 * q) 3 = true) rfl rfl rfl h3
    have v2 : vA (53 + 2 * q + 1) = true := sh3 (P := fun q => vA (53 + 2 * q + 1) = true) rfl rfl rfl h3
    have v3 : vA (555 + q) = true := sh3 (P := fun q => vA (555 + q) = true) rfl rfl rfl h3
    have fX : FRM vF vA S X := by
      rw [hX]
      exact FRM_F (FRM_AA (FRM_F (FRM_AA (FRM_r vF vA S) v2) v1) rfl) rfl
    have n5 : sf X 59 38 = nI q := by
      rw [hX, sf_o (by decide), sf_AA, sf_o (by omega), sf_AA, c8.2.2.2.2.1, hq]
    refine RI_m (RI_RT (r_X11_image n5 h3)) (fun y Z ⟨e1, e2⟩ => ⟨e1.symm, ?_⟩)
    unfold imS at e2
    have fZ : FRM vF vA S Z := by
      rw [e2]
      exact FRM_F (FRM_F (FRM_AA (FRM_F fX rfl) v3) rfl) rfl
    have hv : HV (pd p) := bhv hB
    have hW : LawW (pm p) (pw p) := bW hB
    have sp3 : sp Z = sp S := fZ.2.1
    have z16 : sa Z 16 = sa S 16 := fZ.2.2 16 rfl
    have z535 : sa Z 535 = sa S 535 := fZ.2.2 535 rfl
    -- the new image
    have zi : ∀ i, i < 766 → sa Z (555 + q) i = isr S i := by
      intro i hi
      rw [e2, sa_F, sa_F, sAA_s, if_pos hi]
      unfold isr
      rw [show sf (S0 X) 59 36 = sf S 59 36 from (sf_o (by decide)).trans (fX.1 59 36 rfl), show sa (S0 X) 535 = sa S 535 from fX.2.2 535 rfl]
      by_cases ci : i = 0
      · rw [if_pos ci, if_pos ci]
      · rw [if_neg ci, if_neg ci]
        by_cases c46 : i < 46
        · rw [if_pos c46, if_pos c46]
        · rw [if_neg c46, if_neg c46, show sa (S0 X) (538 + (i - 46) / 45) = sa S (538 + (i - 46) / 45) from fX.2.2 _ (by unfold vA; simp; omega)]
    have z35 : sa Z 35 = va_cpy (sa S 16) (sa S 35) 0 (q * 31) 31 := by
      rw [e2, sa_F, sa_F, sAA_o (by omega)]
      show sa (sF X 59 0 0) 35 = _
      rw [sa_F, hX, sa_F, sAA_s]
    have z54 : sa Z (53 + 2 * q + 1) = va_cpy (sa S 33) (sa S (53 + 2 * q + 1)) 0 0 (w * 31) := by
      rw [e2, sa_F, sa_F, sAA_o (by omega)]
      show sa (sF X 59 0 0) _ = _
      rw [sa_F, hX, sa_F, sAA_o (by omega), sa_F, sAA_s]
    have z53 : sf Z (53 + 2 * q) 3 = nI w := by
      rw [e2, sf_o (by omega), sf_o (by omega), sf_AA]
      show sf (sF X 59 0 0) _ _ = _
      rw [sf_o (by omega), hX, sf_o (by omega), sf_AA, sF_s]
    refine ⟨(p.1, pd p, pm p, pw p, pl p, pt p, pc' p, pk p, q + 1, fun j => if j = q then w else ps' p j), CX_r (eqR_M fZ (fun a k => by simp [fCX, vF]; omega) (fun a => by simp [aCX, vA]; omega)) (by rw [sp3]) (by rw [sp3]) (by rw [z16, z535]; exact (bRG hB).1) c1, IP_r (fun k => by rw [sp3]) c2, IM_r (eqR_M fZ (fun a k => by simp [fIM, vF]; omega) (fun a => by simp [aIM, hgR, vA]; omega)) hv hW (by rw [z535]; exact (bRG hB).2.1) (by rw [z535]; exact (bRG hB).2.2) c3, IL_r (eqR_M fZ (fun a k => by simp [fIL, vF]; omega) (fun a => by simp [aIL, vA]; omega)) c2.2.2.2.2.2.2.1 hv c4, IT_r (eqR_M fZ (fun a k => by simp [fIT, vF]; omega) (fun a => by simp [aIT, vA]; omega)) c5, ?_, IW_r (eqR_M fZ (fun a k => by simp [fIW, vF]; omega) (fun a => by simp [aIW, vA]; omega)) c7, ?_⟩
    · obtain ⟨i1, i2, i3, i4⟩ := c6
      exact ⟨(fZ.1 1 6 rfl).trans (i1.trans (fZ.1 59 3 rfl).symm), (fZ.1 0 13 rfl).trans (i2.trans (fZ.1 59 37 rfl).symm), (fZ.1 0 14 rfl).trans (i3.trans (by rw [fZ.2.2 61 rfl])), (fZ.1 0 15 rfl).trans (i4.trans (by rw [fZ.2.2 61 rfl]))⟩
    · obtain ⟨j1, j2, j3, j4, j5, j6, j7⟩ := c8
      refine ⟨(fZ.1 34 0 rfl).trans j1, (fZ.1 34 1 rfl).trans j2, by show q + 1 ≤ 3; omega, ?_, ?_, fun j hj => ?_, fun j hj => ?_⟩
      · rw [e2, sf_o (by decide), sf_o (by decide), sf_AA]
        show sf (sF X 59 0 0) 34 3 = _
        rw [sf_o (by decide), hX, sF_s]
      · rw [e2, sF_s]
      · rw [fZ.1 _ 0 (sh3 (P := fun q => vF (53 + 2 * q) 0 = false) rfl rfl rfl hj), fZ.1 _ 1 (sh3 (P := fun q => vF (53 + 2 * q) 1 = false) rfl rfl rfl hj)]
        exact j6 j hj
      · have hj : j < q + 1 := hj
        by_cases ej : j = q
        · subst ej
          show I1 Z (pd p) j (if j = j then w else ps' p j)
          rw [if_pos rfl]
          refine ⟨hw16, z53, by rw [zi 0 (by decide)]; show sf S 59 36 = nI w; rw [c7.2.2.2.2.1, hw], RG_cg hv (bRG hB) (fun i hi => ?_) (fun i hi => ?_), fun k hk => RG_cg hv (c7.2.2.2.2.2 k (by omega)) (fun i hi => ?_) (fun i hi => ?_)⟩
          · show sa Z 35 (j * 31 + i) = sa S 16 i
            rw [z35, cpy_i (by omega) (by omega)]
            exact congrArg _ (by omega)
          · show sa Z (555 + j) (1 + i) = sa S 535 i
            rw [zi (1 + i) (by omega)]
            unfold isr
            rw [if_neg (by omega), if_pos (by omega)]
            exact congrArg _ (by omega)
          · show sa Z (53 + 2 * j + 1) (k * 31 + i) = sa S 33 (k * 31 + i)
            rw [z54, cpy_i (by omega) (by omega)]
            exact congrArg _ (by omega)
          · show sa Z (555 + j) (46 + 45 * k + i) = sa S (538 + k) i
            rw [zi _ (by omega)]
            unfold isr
            rw [if_neg (by omega), if_neg (by omega), show (46 + 45 * k + i - 46) / 45 = k by omega, show (46 + 45 * k + i - 46) % 45 = i by omega]
        · show I1 Z (pd p) j (if j = q then w else ps' p j)
          rw [if_neg ej]
          have e3 : sf Z (53 + 2 * j) 3 = sf S (53 + 2 * j) 3 := by
            rw [e2, sf_o (by omega), sf_o (by omega), sf_AA]
            show sf (sF X 59 0 0) _ _ = _
            rw [sf_o (by omega), hX, sf_o (by omega), sf_AA, sf_o (by omega), sf_AA]
          have e4 : sa Z (53 + 2 * j + 1) = sa S (53 + 2 * j + 1) := by
            rw [e2, sa_F, sa_F, sAA_o (by omega)]
            show sa (sF X 59 0 0) _ = _
            rw [sa_F, hX, sa_F, sAA_o (by omega), sa_F, sAA_o (by omega)]
          have e5 : sa Z (555 + j) = sa S (555 + j) := by
            rw [e2, sa_F, sa_F, sAA_o (by omega)]
            show sa (sF X 59 0 0) _ = _
            rw [sa_F, hX, sa_F, sAA_o (by omega), sa_F, sAA_o (by omega)]
          exact I1_r e3 e4 e5 hv (fun i hi => by rw [z35, cpy_o (by omega)]) (j7 j (by omega))
/-! ===== restore ===== -/
def oF (a k : Nat) : Bool := (a == 34 && k == 3) || (a == 32 && k == 3) || (a == 0 && k == 13) || (a == 59 && (k == 0 || k == 36 || k == 37 || k == 38 || k == 39))
def oA (a : Nat) : Bool := a == 16 || a == 33 || a == 535 || (538 ≤ a && a < 554)
theorem st_restore {g : Gp} {S : Sx} (hl : (gl g).stackTraces = false) (hI : INV S) : SP g INV mX10_restore mX11_restore [] S := by
  obtain ⟨p, hB⟩ := hI
  obtain ⟨c1, c2, c3, c4, c5, c6, c7, c8⟩ := id hB
  by_cases h0 : pi' p = 0
  · exact sp_q (d1 := 0) (d2 := 2) hB (by decide) (by decide) (qT (r_X10_restore_no (by rw [c8.2.2.2.1, h0]; rfl))) (fun Y hY hBY => mT (r_X11_restore_no (by rw [hBY.2.2.2.2.2.2.2.2.2.2.2.1, h0]; rfl)))
  · obtain ⟨q, hq⟩ : ∃ q, pi' p = q + 1 := ⟨pi' p - 1, by omega⟩
    obtain ⟨w, hw⟩ : ∃ w, ps' p q = w := ⟨_, rfl⟩
    have h3 : q < 3 := by have := c8.2.2.1; omega
    have hI1 := c8.2.2.2.2.2.2 q (by omega)
    rw [hw] at hI1
    obtain ⟨hw16, k2, k3, k4, k5⟩ := hI1
    have n3 := c8.2.2.2.1
    rw [hq] at n3
    refine ⟨1, 2, _, by decide, by decide, RI_RT (r_X10_restore c8.1 c8.2.1 c7.1 c7.2.1 (c8.2.2.2.2.2.1 q h3).1 (c8.2.2.2.2.2.1 q h3).2 n3 h3 k2 hw16), fun x X hP => ?_⟩
    obtain ⟨rfl, hX⟩ := hP
    unfold reC at hX
    have fX : FRM oF oA S X := by
      rw [hX]
      exact FRM_F (FRM_F (FRM_AA (FRM_AA (FRM_F (FRM_r oF oA S) rfl) rfl) rfl) rfl) rfl
    have n5 : sf X 59 38 = nI (q + 1) := by
      rw [hX, sf_o (by decide), sf_o (by decide), sf_AA, sf_AA, sf_o (by decide), c8.2.2.2.2.1, hq]
    refine RI_m (RI_RT (r_X11_restore n5 h3)) (fun y Z ⟨e1, e2⟩ => ⟨e1.symm, ?_⟩)
    have x555 : sa X (555 + q) = sa S (555 + q) := fX.2.2 _ (by unfold oA; simp; omega)
    have sfr : ∀ a k, sf (reS (sF (S0 X) 59 38 (nI q)) (555 + q) 766) a k = sf (sF (sF (sF (S0 X) 59 38 (nI q)) 59 36 (sa X (555 + q) 0)) 59 39 (nI 766)) a k := fun _ _ => rfl
    have sar : ∀ b k, sa (reS (sF (S0 X) 59 38 (nI q)) (555 + q) 766) b k = if b = 535 ∧ k < 45 ∧ k + 1 < 766 then sa X (555 + q) (k + 1) else if (538 ≤ b ∧ b < 554) ∧ k < 45 ∧ 46 + 45 * (b - 538) + k < 766 then sa X (555 + q) (46 + 45 * (b - 538) + k) else sa X b k := fun _ _ => rfl
    have fZ : FRM oF oA S Z := by
      rw [e2]
      have key : FRM oF oA S (reS (sF (S0 X) 59 38 (nI q)) (555 + q) 766) → FRM oF oA S (sF (reS (sF (S0 X) 59 38 (nI q)) (555 + q) 766) 59 37 0) := fun h => FRM_F h rfl
      refine key ⟨fun a k h => ?_, fX.2.1, fun a h => ?_⟩
      · rw [sfr, sf_o (fun e => by obtain ⟨rfl, rfl⟩ := e; cases h), sf_o (fun e => by obtain ⟨rfl, rfl⟩ := e; cases h), sf_o (fun e => by obtain ⟨rfl, rfl⟩ := e; cases h)]
        show sf (sF X 59 0 0) a k = _
        rw [sf_o (fun e => by obtain ⟨rfl, rfl⟩ := e; cases h)]
        exact fX.1 a k h
      · funext k
        have h' : ¬ (a = 535) ∧ ¬ (538 ≤ a ∧ a < 554) := by
          unfold oA at h
          simp at h
          omega
        rw [sar, if_neg (fun e => h'.1 e.1), if_neg (fun e => h'.2 e.1), fX.2.2 a h]
    have hv : HV (pd p) := bhv hB
    have hW : LawW (pm p) (pw p) := bW hB
    have sp3 : sp Z = sp S := fZ.2.1
    have z16 : ∀ k, k < 31 → sa Z 16 k = sa S 35 (q * 31 + k) := fun k hk => by
      rw [e2, sa_F, sar, if_neg (by omega), if_neg (by omega), hX, sa_F, sa_F, sAA_o (by decide), sAA_s, cpy_i (by omega) (by omega)]
      rfl
    have z535 : ∀ k, k < 45 → sa Z 535 k = sa S (555 + q) (1 + k) := fun k hk => by
      rw [e2, sa_F, sar, if_pos ⟨rfl, hk, by omega⟩, x555, Nat.add_comm k 1]
    have hR := RG_cg hv k4 (c' := sa Z 16) (f' := sa Z 535) z16 z535
    refine ⟨(p.1, pd p, pm p, pw p, pl p, pt p, pc' p, w, q, ps' p), CX_r (eqR_M fZ (fun a k => by simp [fCX, oF]; omega) (fun a => by simp [aCX, oA]; omega)) (by rw [sp3]) (by rw [sp3]) hR.1 c1, IP_r (fun k => by rw [sp3]) c2, IM_r (eqR_M fZ (fun a k => by simp [fIM, oF]; omega) (fun a => by simp [aIM, hgR, oA]; omega)) hv hW hR.2.1 hR.2.2 c3, IL_r (eqR_M fZ (fun a k => by simp [fIL, oF]; omega) (fun a => by simp [aIL, oA]; omega)) c2.2.2.2.2.2.2.1 hv c4, IT_r (eqR_M fZ (fun a k => by simp [fIT, oF]; omega) (fun a => by simp [aIT, oA]; omega)) c5, ?_, ?_, ?_⟩
    · obtain ⟨i1, i2, i3, i4⟩ := c6
      refine ⟨(fZ.1 1 6 rfl).trans (i1.trans (fZ.1 59 3 rfl).symm), ?_, (fZ.1 0 14 rfl).trans (i3.trans (by rw [fZ.2.2 61 rfl])), (fZ.1 0 15 rfl).trans (i4.trans (by rw [fZ.2.2 61 rfl]))⟩
      rw [e2, sF_s, sf_o (by decide), sfr, sf_o (by decide), sf_o (by decide), sf_o (by decide)]
      show sf (sF X 59 0 0) 0 13 = 0
      rw [sf_o (by decide), hX, sF_s]
    · refine ⟨(fZ.1 32 0 rfl).trans c7.1, (fZ.1 32 1 rfl).trans c7.2.1, hw16, ?_, ?_, fun k hk => ?_⟩
      · rw [e2, sf_o (by decide), sfr, sf_o (by decide), sf_o (by decide), sf_o (by decide)]
        show sf (sF X 59 0 0) 32 3 = nI w
        rw [sf_o (by decide), hX, sf_o (by decide), sF_s]
      · rw [e2, sf_o (by decide), sfr, sf_o (by decide), sF_s, x555, k3]
      · have hk : k < w := hk
        refine RG_cg hv (k5 k hk) (fun i hi => ?_) (fun i hi => ?_)
        · show sa Z 33 (k * 31 + i) = sa S (53 + 2 * q + 1) (k * 31 + i)
          rw [e2, sa_F, sar, if_neg (by omega), if_neg (by omega), hX, sa_F, sa_F, sAA_s, cpy_i (by omega) (by omega)]
          exact congrArg _ (by omega)
        · show sa Z (538 + k) i = sa S (555 + q) (46 + 45 * k + i)
          rw [e2, sa_F, sar, if_neg (by omega), if_pos (by omega), x555]
          exact congrArg _ (by omega)
    · obtain ⟨j1, j2, j3, j4, j5, j6, j7⟩ := c8
      have h1 : eqR fII aII S Z → II Z (pd p) q (ps' p) → II Z (pd p) q (ps' p) := fun _ h => h
      refine ⟨(fZ.1 34 0 rfl).trans j1, (fZ.1 34 1 rfl).trans j2, by show q ≤ 3; omega, ?_, ?_, fun j hj => ?_, fun j hj => ?_⟩
      · rw [e2, sf_o (by decide), sfr, sf_o (by decide), sf_o (by decide), sf_o (by decide)]
        show sf (sF X 59 0 0) 34 3 = nI q
        rw [sf_o (by decide), hX, sf_o (by decide), sf_o (by decide), sf_AA, sf_AA, sF_s]
      · rw [e2, sf_o (by decide), sfr, sf_o (by decide), sf_o (by decide), sF_s]
      · rw [fZ.1 _ 0 (sh3 (P := fun q => oF (53 + 2 * q) 0 = false) rfl rfl rfl hj), fZ.1 _ 1 (sh3 (P := fun q => oF (53 + 2 * q) 1 = false) rfl rfl rfl hj)]
        exact j6 j hj
      · have hj : j < q := hj
        have hj3 : j < 3 := by omega
        exact I1_r (fZ.1 _ _ (sh3 (P := fun q => oF (53 + 2 * q) 3 = false) rfl rfl rfl hj3)) (fZ.2.2 _ (sh3 (P := fun q => oA (53 + 2 * q + 1) = false) rfl rfl rfl hj3)) (fZ.2.2 _ (sh3 (P := fun q => oA (555 + q) = false) rfl rfl rfl hj3)) hv (fun i _ => by rw [fZ.2.2 35 rfl]) (j7 j (by omega))
