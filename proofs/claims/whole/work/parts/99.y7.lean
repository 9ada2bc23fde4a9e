/-! ===== a law that is read ===== -/
def lgF (a k : Nat) : Bool := pfF a k || (a == 59 && k == 21)
def lgA (a : Nat) : Bool := pfA a || (109 ≤ a && a < 269)
section LWF
variable {S X : Sx} {F : Nat → Nat → Bool} {A : Nat → Bool} {n : Nat} {cc : Nat → Nat} {r : LgS}
theorem FRM_rl {l : List (Nat × Nat)} (h : FRM F A S X) (hF : F 59 22 = true) (hA : ∀ a, 270 ≤ a → a < 430 → A a = true) (hl : l.length ≤ 160) : FRM F A S (rlS X l) := by
  have h2 := FRM_F (v := nI l.length) h hF
  refine ⟨h2.1, h2.2.1, fun a q => ?_⟩
  have hn : ¬ (270 ≤ a ∧ a < 430) := fun w => by rw [hA a w.1 w.2] at q; cases q
  funext i
  show (if 270 ≤ a ∧ a < 270 + l.length ∧ i < 2 then _ else sa X a i) = _
  rw [if_neg (by omega), h.2.2 a q]
theorem FRM_lb (hl : r.2.length ≤ 160) : FRM pfF pfA (S0 S) (lwB S n cc r) := by
  unfold lwB
  exact FRM_ps rfl rfl rfl (FRM_F (FRM_rl (FRM_F (FRM_st _ n) rfl) rfl (fun a h1 h2 => by simp [pfA] <;> omega) hl) rfl)
theorem FRM_lg (hl : r.2.length ≤ 160) : FRM lgF lgA (S0 S) (lwG S n cc r) := by
  have h : FRM pfF pfA (S0 S) (ps (sF (rlS (sF (stS (S0 S) n) 59 22 0) r.2) 59 3 (-1)) (lwR cc n r)) := FRM_ps rfl rfl rfl (FRM_F (FRM_rl (FRM_F (FRM_st _ n) rfl) rfl (fun a h1 h2 => by simp [pfA] <;> omega) hl) rfl)
  have h2 : FRM lgF lgA (S0 S) (sF (ps (sF (rlS (sF (stS (S0 S) n) 59 22 0) r.2) 59 3 (-1)) (lwR cc n r)) 59 21 (nI r.2.length)) := FRM_F (FRM_mono h (fun a k q => by unfold lgF at q; exact (Bool.or_eq_false_iff.mp q).1) (fun a q => by unfold lgA at q; exact (Bool.or_eq_false_iff.mp q).1)) rfl
  unfold lwG
  refine ⟨h2.1, h2.2.1, fun a q => ?_⟩
  have hn : ¬ (109 ≤ a ∧ a < 269) := fun w => by
    unfold lgA at q
    have := (Bool.or_eq_false_iff.mp q).2
    simp at this
    omega
  rw [← h2.2.2 a q]
  funext i
  show (if 109 ≤ a ∧ i < 2 ∧ (a < 109 + r.2.length ∨ (a = 109 + r.2.length ∧ i < 0)) then _ else _) = _
  rw [if_neg (by omega)]
theorem lg_at (hl : r.2.length ≤ 160) {k : Nat} (hk : k < r.2.length) : sa (lwG S n cc r) (109 + k) 0 = nI (r.2.getD k (0, 0)).1 ∧ sa (lwG S n cc r) (109 + k) 1 = nI (r.2.getD k (0, 0)).2 := by
  have e : ∀ i, i < 2 → sa (lwG S n cc r) (109 + k) i = if i = 0 then nI (r.2.getD k (0, 0)).1 else nI (r.2.getD k (0, 0)).2 := by
    intro i hi
    show (if 109 ≤ 109 + k ∧ i < 2 ∧ (109 + k < 109 + r.2.length ∨ (109 + k = 109 + r.2.length ∧ i < 0)) then sa (rlS (sF (stS (S0 S) n) 59 22 0) r.2) (270 + (109 + k - 109)) i else _) = _
    rw [if_pos (by omega), Nat.add_sub_cancel_left]
    show (if 270 ≤ 270 + k ∧ 270 + k < 270 + r.2.length ∧ i < 2 then (if i = 0 then nI (r.2.getD (270 + k - 270) (0, 0)).1 else nI (r.2.getD (270 + k - 270) (0, 0)).2) else _) = _
    rw [if_pos (by omega), Nat.add_sub_cancel_left]
  exact ⟨e 0 (by decide), e 1 (by decide)⟩
end LWF
theorem lwR_0 {cc : Nat → Nat} {n : Nat} {r : LgS} (h : (lwR cc n r).2.1 = 0) : r.1.2.1 = 0 := by
  unfold lwR at h
  by_cases c : r.1.2.1 = 0 ∧ pbl cc n r.1.1 < n
  · exact c.1
  · rw [if_neg c] at h
    exact h
theorem st_law {g : Gp} {S : Sx} (hl : (gl g).stackTraces = false) (hI : INV S) (x : Int32) : SW g INV mL_law hL_law mX11_law wI [.int x] S := by
  obtain ⟨a, a', b, b', q, q', d, m, wv, l, tp, cc, w, im, ws, hB'⟩ := INV_e hI
  obtain ⟨c1, c2, c3, c4, c5, c6, c7, c8⟩ := id hB'
  have hB := IX_B hB'
  have hv : HV d := bhv hB
  have hW : LawW m wv := bW hB
  have bR : RG d (sa S 16) (sa S 535) := bRG hB
  have bg : HG S d := bG hB
  have ha : a = 4 ∨ a = 39 := c1.2.1
  have hb : b = 13 ∨ b = 48 := c1.2.2.1
  have hb' : b' = 13 ∨ b' = 48 := c2.2.2.2.1
  have hnb : b ≠ b' := c2.2.2.2.2.1
  have hq : q = 37 ∨ q = 51 := c2.2.2.2.2.2.2.1
  have hq' : q' = 37 ∨ q' = 51 := c2.2.2.2.2.2.2.2.1
  by_cases hx : 0 ≤ x ∧ x ≤ nI tp ∧ x ≤ nI 150
  · obtain ⟨n, hn, hn1, rfl⟩ := rd_x c5.1 (by decide) hx
    have hTX := TX_IT c5 hn
    obtain ⟨f, r, hr⟩ := lp_ex hTX n ((pbl (ccN cc n) n 0, 0, 0), []) (PO_0 _ n) (by show n ≤ pbl (ccN cc n) n 0 + n; omega) 0 0
    have hlen : r.2.length ≤ 160 := by have := LK_0 hTX hr; omega
    by_cases hr0 : (lwR (ccN cc n) n r).2.1 = 0
    · have hLW := LawW_lp hTX hn1 hr (lwR_0 hr0)
      refine sw_g (d2 := 32) (by decide) (wg_law (by decide) (r_X10_law c5.2.1 c5.1 hn hn1 (FC_IT c5 hn) hr hb' c2.2.2.2.2.2.1 hr0 hb c1.2.2.2.2.1)) (fun y X hP => ?_)
      obtain ⟨rfl, hf, h11, h16, hLI⟩ := hP
      have fX : FRA (t1F (lwF b')) (lwA b') S X := ⟨hf.1.1, hf.1.2.2⟩
      have hs : sp X = up2 (up2 (sp S) 3 3 b') 0 11 b := hf.1.2.1
      refine RI_m (RI_RT (r_X11_law (S := sL X 0 (wI 1)) ((fX.1 59 1 (by simp [t1F, lwF] <;> omega)).trans c5.2.2.1) c5.1 hn hn1 (FD_IT c5 hn (fX.2 60 (by simp [lwA] <;> omega))) hr hr0)) (fun y Z hP => ?_)
      obtain ⟨rfl, hZ⟩ := hP
      have hz : FRM lgF lgA (S0 (sL X 0 (wI 1))) Z := by rw [hZ]; exact FRM_lg hlen
      have fZ : FRA lgF lgA (S0 (sL X 0 (wI 1))) Z := ⟨hz.1, hz.2.2⟩
      have z0 : sf Z 59 0 = 0 := (fZ.1 59 0 rfl).trans sF_s
      have h591 : sf Z 59 1 = 0 := by rw [hZ]; rfl
      have h593 : sf Z 59 3 = -1 := by rw [hZ]; rfl
      have h5921 : sf Z 59 21 = nI r.2.length := by rw [hZ]; rfl
      refine ⟨rfl, z0, by rw [hZ]; rfl, ?_⟩
      have sz : sp Z = sp X := hz.2.1
      have cF : ∀ x' k, x' < 59 → sf Z x' k = sf X x' k := fun x' k h => (fZ.1 x' k (by simp [lgF, pfF] <;> omega)).trans (sf_o (by omega))
      have cA : ∀ x', x' < 59 → sa Z x' = sa X x' := fun x' h => fZ.2 x' (by simp [lgA, pfA, hA] <;> omega)
      have z16 : sa Z 16 = sa S 16 := (cA 16 (by decide)).trans (fX.2 16 (by simp [lwA] <;> omega))
      have z535 : sa Z 535 = sa S 535 := (fZ.2 535 rfl).trans (fX.2 535 (by simp [lwA] <;> omega))
      have z61 : sa Z 61 = sa S 61 := (fZ.2 61 rfl).trans (fX.2 61 (by simp [lwA] <;> omega))
      have eM : cM r.2.length = r.2.length := if_neg hLW.2
      have eW : cW r.2.length (gd r.2) = gd r.2 := if_neg hLW.2
      refine INV_i (a := a) (a' := a') (b := b') (b' := b) (q := q) (q' := q') (d := d) (m := r.2.length) (wv := gd r.2) (l := l) (tp := 0) (cc := cc) (w := w) (im := im) (ws := ws) ⟨⟨c1.1, ha, hb', by rw [sz, hs]; exact c1.2.2.2.1, by rw [sz, hs]; rfl, HC_c c1.2.2.2.2.2.1 (fun k k1 k2 => (cF a k (by omega)).trans (fX.1 a k (by simp [t1F, lwF] <;> omega))) (fun k k1 k2 => (cA _ (by omega)).trans (fX.2 _ (by simp [lwA] <;> omega))), hv, hLW.1, ⟨by rw [eM]; exact (cF b' 2 (by omega)).trans hLI.1, fun k hk => ?_⟩, by rw [z16, z535]; exact bR.1⟩, ?_, ⟨HG_cg bg hv (fun x' h => (fZ.2 x' (by have := hgR_lt h; unfold hgR at h; simp at h; simp [lgA, pfA, hA] <;> omega)).trans (fX.2 x' (by unfold hgR at h; simp at h; simp [lwA] <;> omega))), ⟨h5921, fun k hk => ?_⟩, by rw [z535]; exact bR.2.1, by rw [z535]; exact bR.2.2⟩, IL_p (S := S) (eqR_2 fX fZ (by unfold fLp; simp <;> omega) (fun x' k => by simp [fLp, t1F, lwF] <;> omega) (fun x' => by simp [aLp, lwA] <;> omega) (fun x' k => by simp [fLp, lgF, pfF] <;> omega) (fun x' => by simp [aLp, lgA, pfA, hA] <;> omega)) hv c4, IT_0 ((cF 1 1 (by decide)).trans h11) h591, ?_, IW_r (S := S) (eqR_2 fX fZ rfl (fun x' k => by simp [fIW, t1F, lwF] <;> omega) (fun x' => by simp [aIW, lwA] <;> omega) (fun x' k => by simp [fIW, lgF, pfF] <;> omega) (fun x' => by simp [aIW, lgA, pfA, hA] <;> omega)) c7, II_r (S := S) (eqR_2 fX fZ rfl (fun x' k => by simp [fII, t1F, lwF] <;> omega) (fun x' => by simp [aII, lwA] <;> omega) (fun x' k => by simp [fII, lgF, pfF] <;> omega) (fun x' => by simp [aII, lgA, pfA, hA] <;> omega)) hv c8⟩
      · rw [eM] at hk
        rw [eW, cA _ (by omega)]
        exact hLI.2 k hk
      · obtain ⟨i1, i2, i3, i4, i5, i6, i7, i8, i9, i10, i11⟩ := c2
        exact ⟨i1, i2, by rw [sz, hs]; exact i3, hb, fun e => i5 e.symm, by rw [sz, hs]; rfl, i7, i8, i9, by rw [sz, hs]; exact i10, by rw [sz, hs]; exact i11⟩
      · rw [hZ]
        exact lg_at hlen hk
      · obtain ⟨i1, i2, i3, i4⟩ := c6
        refine ⟨(cF 1 6 (by decide)).trans (h16.trans h593.symm), ?_, ?_, ?_⟩
        · rw [cF 0 13 (by decide), fX.1 0 13 (by simp [t1F, lwF] <;> omega), i2, fZ.1 59 37 rfl]
          show sf S 59 37 = sf (sF (sL X 0 _) 59 0 0) 59 37
          rw [sf_o (by decide)]
          exact (fX.1 59 37 (by simp [t1F, lwF] <;> omega)).symm
        · rw [cF 0 14 (by decide), fX.1 0 14 (by simp [t1F, lwF] <;> omega), z61, i3]
        · rw [cF 0 15 (by decide), fX.1 0 15 (by simp [t1F, lwF] <;> omega), z61, i4]
    · refine sw_g (d2 := 32) (by decide) (wg_law (by decide) (r_X10_law_bad c5.2.1 c5.1 hn hn1 (FC_IT c5 hn) hr hb' c2.2.2.2.2.2.1 hr0)) (fun y X hP => ?_)
      obtain ⟨rfl, hf, h11, h16⟩ := hP
      have fX : FRA (t1F (lwF b')) (lwA b') S X := ⟨hf.1.1, hf.1.2.2⟩
      have hs : sp X = sp S := hf.1.2.1
      obtain ⟨V, hV⟩ : ∃ V, V = wI (nI (lwR (ccN cc n) n r).2.1 - 10) := ⟨_, rfl⟩
      rw [← hV]
      refine RI_m (RI_RT (r_X11_law_bad (S := sL X 0 V) ((fX.1 59 1 (by simp [t1F, lwF] <;> omega)).trans c5.2.2.1) c5.1 hn hn1 (FD_IT c5 hn (fX.2 60 (by simp [lwA] <;> omega))) hr hr0)) (fun y Z hP => ?_)
      obtain ⟨rfl, hZ⟩ := hP
      have hz : FRM pfF pfA (S0 (sL X 0 V)) Z := by rw [hZ]; exact FRM_lb hlen
      have fZ : FRA pfF pfA (S0 (sL X 0 V)) Z := ⟨hz.1, hz.2.2⟩
      have z0 : sf Z 59 0 = 0 := (fZ.1 59 0 rfl).trans sF_s
      have h591 : sf Z 59 1 = 0 := by rw [hZ]; rfl
      have h593 : sf Z 59 3 = nI (lwR (ccN cc n) n r).2.2 := by rw [hZ]; rfl
      refine ⟨rfl, z0, by rw [hZ]; rfl, ?_⟩
      have sz : sp Z = sp S := hz.2.1.trans hs
      have cF : ∀ x' k, x' < 59 → sf Z x' k = sf X x' k := fun x' k h => (fZ.1 x' k (by unfold pfF; simp <;> omega)).trans (sf_o (by omega))
      have cA : ∀ x', x' < 59 → sa Z x' = sa X x' := fun x' h => fZ.2 x' (by unfold pfA hA; simp <;> omega)
      have z16 : sa Z 16 = sa S 16 := (cA 16 (by decide)).trans (fX.2 16 (by simp [lwA] <;> omega))
      have z535 : sa Z 535 = sa S 535 := (fZ.2 535 rfl).trans (fX.2 535 (by simp [lwA] <;> omega))
      have z61 : sa Z 61 = sa S 61 := (fZ.2 61 rfl).trans (fX.2 61 (by simp [lwA] <;> omega))
      refine INV_i (a := a) (a' := a') (b := b) (b' := b') (q := q) (q' := q') (d := d) (m := m) (wv := wv) (l := l) (tp := 0) (cc := cc) (w := w) (im := im) (ws := ws) ⟨CX_p (S := S) (eqR_2 fX fZ (by unfold fCp; simp <;> omega) (fun x' k => by simp [fCp, t1F, lwF] <;> omega) (fun x' => by simp [aCp, lwA] <;> omega) (fun x' k => by simp [fCp, pfF] <;> omega) (fun x' => by simp [aCp, pfA, hA] <;> omega)) (by rw [sz]) (by rw [sz]) (by rw [z16, z535]; exact bR.1) c1, IP_r (fun k => by rw [sz]) c2, IM_r (S := S) (eqR_2 fX fZ (by unfold fIM; rfl) (fun x' k => by simp [fIM, t1F, lwF] <;> omega) (fun x' => by simp [aIM, hgR, lwA] <;> omega) (fun x' k => by simp [fIM, pfF] <;> omega) (fun x' => by simp [aIM, hgR, pfA, hA] <;> omega)) hv hW (by rw [z535]; exact bR.2.1) (by rw [z535]; exact bR.2.2) c3, IL_p (S := S) (eqR_2 fX fZ (by unfold fLp; simp <;> omega) (fun x' k => by simp [fLp, t1F, lwF] <;> omega) (fun x' => by simp [aLp, lwA] <;> omega) (fun x' k => by simp [fLp, pfF] <;> omega) (fun x' => by simp [aLp, pfA, hA] <;> omega)) hv c4, IT_0 ((cF 1 1 (by decide)).trans h11) h591, ?_, IW_r (S := S) (eqR_2 fX fZ rfl (fun x' k => by simp [fIW, t1F, lwF] <;> omega) (fun x' => by simp [aIW, lwA] <;> omega) (fun x' k => by simp [fIW, pfF] <;> omega) (fun x' => by simp [aIW, pfA, hA] <;> omega)) c7, II_r (S := S) (eqR_2 fX fZ rfl (fun x' k => by simp [fII, t1F, lwF] <;> omega) (fun x' => by simp [aII, lwA] <;> omega) (fun x' k => by simp [fII, pfF] <;> omega) (fun x' => by simp [aII, pfA, hA] <;> omega)) hv c8⟩
      obtain ⟨i1, i2, i3, i4⟩ := c6
      refine ⟨(cF 1 6 (by decide)).trans (h16.trans h593.symm), ?_, ?_, ?_⟩
      · rw [cF 0 13 (by decide), fX.1 0 13 (by simp [t1F, lwF] <;> omega), i2, fZ.1 59 37 rfl]
        show sf S 59 37 = sf (sF (sL X 0 _) 59 0 0) 59 37
        rw [sf_o (by decide)]
        exact (fX.1 59 37 (by simp [t1F, lwF] <;> omega)).symm
      · rw [cF 0 14 (by decide), fX.1 0 14 (by simp [t1F, lwF] <;> omega), z61, i3]
      · rw [cF 0 15 (by decide), fX.1 0 15 (by simp [t1F, lwF] <;> omega), z61, i4]
  · exact sw_e hB (k := 1) (by decide) (by decide) (we_law_IA (by decide) (e_X10_law hl c5.2.1 c5.1 hx)) (r_X11_law_er (S := ce S 1) (tp := tp) c5.2.2.1 (fun h => hx ⟨h.1.1, h.1.2, h.2⟩)) (by decide)
