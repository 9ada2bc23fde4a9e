/-! ===== a house that is read ===== -/
theorem HV_lp {S : Sx} {n : Nat} {cc : Nat → Nat} (hx : TX S n cc) : ∀ (f : Nat) (s r : HS), PO n s.1 → (s.1.2.1 = 0 → HV s.2.2) → hlp cc n f s = some r → r.1.2.1 = 0 → HV r.2.2
  | 0, _, _, _, _, h, _ => by cases h
  | f + 1, s, r, hp, hv, h, hr => by
    have h : (if s.1.2.1 = 0 ∧ s.1.1 < n then hlp cc n f ((pbl cc n (hcl cc n s).1.1, (hcl cc n s).1.2), (hcl cc n s).2) else some s) = some r := h
    by_cases c : s.1.2.1 = 0 ∧ s.1.1 < n
    · rw [if_pos c] at h
      exact HV_lp hx f ((pbl cc n (hcl cc n s).1.1, (hcl cc n s).1.2), (hcl cc n s).2) r (PO_bl (PO_hcl hx hp)) (fun z => HV_cl hx hp (hv c.1) z) h hr
    · rw [if_neg c] at h
      cases h
      exact hv hr
theorem HV_0 : HV hd0 := ⟨Nat.zero_le _, Nat.zero_le _, Nat.zero_le _, fun i h => absurd h (Nat.not_lt_zero i), fun i v h => (by cases h), fun i h => absurd h (Nat.not_lt_zero i), fun i h => absurd h (Nat.not_lt_zero i)⟩
theorem DT_z {d : HD} (hv : HV d) {f : Row} (hf : ∀ k, k < 45 → f k = row0 k) : DT d f := by
  have h10 : dNr d ≤ 10 := hv.2.1
  exact ⟨0, by decide, (hf 44 (by decide)).trans rfl, fun r hr => Or.inl ((hf (16 + r) (by omega)).trans (if_pos (Or.inl ⟨by omega, by omega⟩)))⟩
theorem KA_z {d : HD} (hv : HV d) {f : Row} (hf : ∀ k, k < 45 → f k = row0 k) : KA d f := by
  have h10 : dNr d ≤ 10 := hv.2.1
  exact fun r hr h => absurd ((hf (16 + r) (by omega)).trans (if_pos (Or.inl ⟨by omega, by omega⟩))) h
theorem rd_600 {x : Int32} {tp : Nat} (h6 : tp ≤ 600) (h : 0 ≤ x ∧ x ≤ nI tp) : x ≤ nI 600 := Int32.le_trans h.2 ((nI_leI (by omega) (by decide)).mpr h6)
theorem st_house {g : Gp} {S : Sx} (hl : (gl g).stackTraces = false) (hI : INV S) (x : Int32) : SW g INV mL_house hL_house mX11_house wI [.int x] S := by
  obtain ⟨a, a', b, b', q, q', d, m, wv, l, tp, cc, w, im, ws, hB'⟩ := INV_e hI
  obtain ⟨c1, c2, c3, c4, c5, c6, c7, c8⟩ := id hB'
  have hB := IX_B hB'
  have hv : HV d := bhv hB
  have hW : LawW m wv := bW hB
  have bR : RG d (sa S 16) (sa S 535) := bRG hB
  have bg : HG S d := bG hB
  have ha : a = 4 ∨ a = 39 := c1.2.1
  have ha' : a' = 4 ∨ a' = 39 := c2.1
  have hna : a ≠ a' := c2.2.1
  have hb : b = 13 ∨ b = 48 := c1.2.2.1
  have hq : q = 37 ∨ q = 51 := c2.2.2.2.2.2.2.1
  have hq' : q' = 37 ∨ q' = 51 := c2.2.2.2.2.2.2.2.1
  by_cases hx : 0 ≤ x ∧ x ≤ nI tp ∧ x ≤ nI 600
  · obtain ⟨n, hn, hn6, rfl⟩ := rd_x c5.1 (by decide) hx
    have hTX := TX_IT c5 hn
    obtain ⟨s, hr⟩ := hlp_ex (cc := ccN cc n) (n := n) 60 ((pbl (ccN cc n) n 0, 0, 0), 0, hd0) rfl
    by_cases hr0 : s.1.2.1 = 0
    · have hv' : HV s.2.2 := HV_lp hTX _ _ s (PO_0 _ n) (fun _ => HV_0) hr hr0
      refine sw_g (d2 := 8) (by decide) (wg_house (by decide) (r_X10_house c5.2.1 c5.1 hn (FC_IT c5 hn) hr ha' c2.2.2.1 hr0 ha (fun e => hna e.symm) hb hq c1.2.2.2.1 c1.2.2.2.2.1 c2.2.2.2.2.2.2.2.2.2.1 hv')) (fun y X hP => ?_)
      obtain ⟨rfl, hf, h11, h16, hHC, hLI, h16c, hSC, h323, h343, h013⟩ := hP
      have fX : FRA (hsF a' b q) (hsA a' b q) S X := ⟨hf.1.1, hf.1.2.2⟩
      have hs : sp X = up2 (up2 (sp S) 3 2 a') 0 10 a := hf.1.2.1
      refine RI_m (r_X11_house (S := sL X 0 (wI (nI (dNr s.2.2)))) ((fX.1 59 1 (by simp [hsF, hcF, lwF, sgF] <;> omega)).trans c5.2.2.1) c5.1 hn (FD_IT c5 hn (fX.2 60 (by simp [hsA, hcA, bgB, lwA, sgA] <;> omega))) hr hr0) (fun y Z hP => ?_)
      obtain ⟨rfl, hz, h591, h593, hHG, hHZ⟩ := hP
      have fZ : FRA hgF hgA (S0 (sL X 0 (wI (nI (dNr s.2.2))))) Z := ⟨hz.1.1, hz.1.2.2⟩
      have z0 : sf Z 59 0 = 0 := (fZ.1 59 0 rfl).trans sF_s
      refine ⟨rfl, z0, hz.2, ?_⟩
      have sz : sp Z = sp X := hz.1.2.1
      have cF : ∀ x' k, x' < 59 → sf Z x' k = sf X x' k := fun x' k h => (fZ.1 x' k (by simp [hgF, pfF] <;> omega)).trans (sf_o (by omega))
      have cA : ∀ x', x' < 59 → sa Z x' = sa X x' := fun x' h => fZ.2 x' (by simp [hgA, pfA, hA] <;> omega)
      have z61 : sa Z 61 = sa S 61 := (fZ.2 61 rfl).trans (fX.2 61 (by simp [hsA, hcA, bgB, lwA, sgA] <;> omega))
      have z535 : ∀ k, k < 45 → sa Z 535 k = row0 k := hHZ.1
      have zRC : RC s.2.2 (sa Z 16) (sa Z 535) := RC_0 hv' (fun k hk => by rw [cA 16 (by decide)]; exact h16c k hk) z535
      refine INV_i (a := a') (a' := a) (b := b) (b' := b') (q := q) (q' := q') (d := s.2.2) (m := 0) (wv := fun _ => (0, 0)) (l := []) (tp := 0) (cc := cc) (w := 0) (im := 0) (ws := ws) ⟨⟨c1.1, ha', hb, by rw [sz, hs]; rfl, by rw [sz, hs]; exact c1.2.2.2.2.1, HC_c hHC (fun k k1 k2 => cF a' k (by omega)) (fun k k1 k2 => cA _ (by omega)), hv', ⟨Nat.zero_le _, fun k h => absurd h (Nat.not_lt_zero k)⟩, ⟨(cF b 2 (by omega)).trans hLI.1, fun k hk => ?_⟩, zRC⟩, ?_, ⟨hHG, ⟨hHZ.2.1, fun k h => absurd h (Nat.not_lt_zero k)⟩, DT_z hv' z535, KA_z hv' z535⟩, ⟨⟨(cF q 1 (by omega)).trans hSC.1, fun k hk => by rw [cA _ (by omega)]; exact hSC.2 k hk⟩, hHZ.2.2.1, fun k h => absurd h (Nat.not_lt_zero k), ⟨List.nodup_nil, fun z h => by cases h⟩⟩, IT_0 ((cF 1 1 (by decide)).trans h11) h591, ?_, ?_, ?_⟩
      · rw [cA _ (by omega)]
        exact hLI.2 k hk
      · obtain ⟨i1, i2, i3, i4, i5, i6, i7, i8, i9, i10, i11⟩ := c2
        exact ⟨ha, fun e => i2 e.symm, by rw [sz, hs]; rfl, i4, i5, by rw [sz, hs]; exact i6, i7, i8, i9, by rw [sz, hs]; exact i10, by rw [sz, hs]; exact i11⟩
      · obtain ⟨i1, i2, i3, i4⟩ := c6
        refine ⟨(cF 1 6 (by decide)).trans (h16.trans h593.symm), (cF 0 13 (by decide)).trans (h013.trans hHZ.2.2.2.2.1.symm), ?_, ?_⟩
        · rw [cF 0 14 (by decide), fX.1 0 14 (by simp [hsF, hcF, lwF, sgF] <;> omega), z61, i3]
        · rw [cF 0 15 (by decide), fX.1 0 15 (by simp [hsF, hcF, lwF, sgF] <;> omega), z61, i4]
      · exact ⟨(cF 32 0 (by decide)).trans ((fX.1 32 0 (by simp [hsF, hcF, lwF, sgF] <;> omega)).trans c7.1), (cF 32 1 (by decide)).trans ((fX.1 32 1 (by simp [hsF, hcF, lwF, sgF] <;> omega)).trans c7.2.1), Nat.zero_le _, (cF 32 3 (by decide)).trans h323, hHZ.2.2.2.1, fun k h => absurd h (Nat.not_lt_zero k)⟩
      · refine ⟨(cF 34 0 (by decide)).trans ((fX.1 34 0 (by simp [hsF, hcF, lwF, sgF] <;> omega)).trans c8.1), (cF 34 1 (by decide)).trans ((fX.1 34 1 (by simp [hsF, hcF, lwF, sgF] <;> omega)).trans c8.2.1), Nat.zero_le _, (cF 34 3 (by decide)).trans h343, hHZ.2.2.2.2.2, fun j hj => ?_, fun k h => absurd h (Nat.not_lt_zero k)⟩
        rw [cF _ 0 (by omega), cF _ 1 (by omega), fX.1 _ 0 (by simp [hsF, hcF, lwF, sgF] <;> omega), fX.1 _ 1 (by simp [hsF, hcF, lwF, sgF] <;> omega)]
        exact c8.2.2.2.2.2.1 j hj
    · refine sw_g (d2 := 8) (by decide) (wg_house (by decide) (r_X10_house_bad c5.2.1 c5.1 hn (FC_IT c5 hn) hr ha' c2.2.2.1 hr0)) (fun y X hP => ?_)
      obtain ⟨rfl, hf, h11, h16⟩ := hP
      have fX : FRA (t1F (hcF a')) (hcA a') S X := ⟨hf.1.1, hf.1.2.2⟩
      have hs : sp X = sp S := hf.1.2.1
      refine RI_m (r_X11_house_bad (S := sL X 0 (wI (nI s.1.2.1 - 10))) ((fX.1 59 1 (by simp [t1F, hcF] <;> omega)).trans c5.2.2.1) c5.1 hn (FD_IT c5 hn (fX.2 60 (by simp [hcA] <;> omega))) hr hr0) (fun y Z hP => ?_)
      obtain ⟨rfl, hz, h591, h593⟩ := hP
      have fZ : FRA pfF pfA (S0 (sL X 0 (wI (nI s.1.2.1 - 10)))) Z := ⟨hz.1.1, hz.1.2.2⟩
      have z0 : sf Z 59 0 = 0 := (fZ.1 59 0 rfl).trans sF_s
      refine ⟨rfl, z0, hz.2, ?_⟩
      have sz : sp Z = sp S := hz.1.2.1.trans hs
      have cF : ∀ x' k, x' < 59 → sf Z x' k = sf X x' k := fun x' k h => (fZ.1 x' k (by unfold pfF; simp <;> omega)).trans (sf_o (by omega))
      have cA : ∀ x', x' < 59 → sa Z x' = sa X x' := fun x' h => fZ.2 x' (by unfold pfA hA; simp <;> omega)
      have z16 : sa Z 16 = sa S 16 := (cA 16 (by decide)).trans (fX.2 16 (by simp [hcA] <;> omega))
      have z535 : sa Z 535 = sa S 535 := (fZ.2 535 rfl).trans (fX.2 535 (by simp [hcA] <;> omega))
      have z61 : sa Z 61 = sa S 61 := (fZ.2 61 rfl).trans (fX.2 61 (by simp [hcA] <;> omega))
      refine INV_i (a := a) (a' := a') (b := b) (b' := b') (q := q) (q' := q') (d := d) (m := m) (wv := wv) (l := l) (tp := 0) (cc := cc) (w := w) (im := im) (ws := ws) ⟨CX_p (S := S) (eqR_2 fX fZ (by unfold fCp; simp <;> omega) (fun x' k => by simp [fCp, t1F, hcF] <;> omega) (fun x' => by simp [aCp, hcA] <;> omega) (fun x' k => by simp [fCp, pfF] <;> omega) (fun x' => by simp [aCp, pfA, hA] <;> omega)) (by rw [sz]) (by rw [sz]) (by rw [z16, z535]; exact bR.1) c1, IP_r (fun k => by rw [sz]) c2, IM_r (S := S) (eqR_2 fX fZ (by unfold fIM; rfl) (fun x' k => by simp [fIM, t1F, hcF] <;> omega) (fun x' => by simp [aIM, hgR, hcA] <;> omega) (fun x' k => by simp [fIM, pfF] <;> omega) (fun x' => by simp [aIM, hgR, pfA, hA] <;> omega)) hv hW (by rw [z535]; exact bR.2.1) (by rw [z535]; exact bR.2.2) c3, IL_p (S := S) (eqR_2 fX fZ (by unfold fLp; simp <;> omega) (fun x' k => by simp [fLp, t1F, hcF] <;> omega) (fun x' => by simp [aLp, hcA] <;> omega) (fun x' k => by simp [fLp, pfF] <;> omega) (fun x' => by simp [aLp, pfA, hA] <;> omega)) hv c4, IT_0 ((cF 1 1 (by decide)).trans h11) h591, ?_, IW_r (S := S) (eqR_2 fX fZ rfl (fun x' k => by simp [fIW, t1F, hcF] <;> omega) (fun x' => by simp [aIW, hcA] <;> omega) (fun x' k => by simp [fIW, pfF] <;> omega) (fun x' => by simp [aIW, pfA, hA] <;> omega)) c7, II_r (S := S) (eqR_2 fX fZ rfl (fun x' k => by simp [fII, t1F, hcF] <;> omega) (fun x' => by simp [aII, hcA] <;> omega) (fun x' k => by simp [fII, pfF] <;> omega) (fun x' => by simp [aII, pfA, hA] <;> omega)) hv c8⟩
      obtain ⟨i1, i2, i3, i4⟩ := c6
      refine ⟨(cF 1 6 (by decide)).trans (h16.trans h593.symm), ?_, ?_, ?_⟩
      · rw [cF 0 13 (by decide), fX.1 0 13 (by simp [t1F, hcF] <;> omega), i2, fZ.1 59 37 rfl]
        show sf S 59 37 = sf (sF (sL X 0 _) 59 0 0) 59 37
        rw [sf_o (by decide)]
        exact (fX.1 59 37 (by simp [t1F, hcF] <;> omega)).symm
      · rw [cF 0 14 (by decide), fX.1 0 14 (by simp [t1F, hcF] <;> omega), z61, i3]
      · rw [cF 0 15 (by decide), fX.1 0 15 (by simp [t1F, hcF] <;> omega), z61, i4]
  · exact sw_e hB (k := 1) (by decide) (by decide) (we_house_IA (by decide) (e_X10_house hl c5.2.1 c5.1 hx)) (r_X11_house_er (S := ce S 1) (tp := tp) c5.2.2.1 (fun h => hx ⟨h.1, h.2, rd_600 c5.1 h⟩)) (by decide)
