/-! ===== readings, told twice ===== -/
def FRA (F : Nat → Nat → Bool) (A : Nat → Bool) (S X : Sx) : Prop := (∀ a k, F a k = false → sf X a k = sf S a k) ∧ (∀ a, A a = false → sa X a = sa S a)
def ccN (cc : Nat → Nat) (n : Nat) : Nat → Nat := fun k => if k < n then cc k else 999
/-- what the class reads of itself -/
def fCp (a b x k : Nat) : Bool := (x == a && (8 ≤ k && k ≤ 10)) || (x == b && k == 2)
def aCp (a b x : Nat) : Bool := (a < x && x ≤ a + 8) || x == b + 1
def fLp (q x k : Nat) : Bool := (x == q && k == 1) || (x == 59 && k == 35)
def aLp (q x : Nat) : Bool := x == q + 1 || (431 ≤ x && x < 441)
section RDG
variable {S X Y Z : Sx} {d : HD} {F F1 F2 : Nat → Nat → Bool} {A A1 A2 : Nat → Bool} {n tp : Nat} {cc : Nat → Nat}
theorem FC_IT (i : IT S tp cc) (h : n ≤ tp) : FC S n (ccN cc n) := by
  have h6 := i.1
  refine ⟨by omega, fun k hk => ?_, fun k hk => if_neg (by omega)⟩
  have := i.2.2.2 k (by omega)
  unfold ccN
  rw [if_pos hk]
  exact ⟨this.1, this.2.2⟩
theorem FD_IT (i : IT S tp cc) (h : n ≤ tp) (e : sa Y 60 = sa S 60) : FD Y n (ccN cc n) := by
  have h6 := i.1
  refine ⟨by omega, fun k hk => ?_, fun k hk => if_neg (by omega)⟩
  have := i.2.2.2 k (by omega)
  unfold ccN
  rw [if_pos hk, e]
  exact this.2
theorem TX_IT (i : IT S tp cc) (h : n ≤ tp) : TX (sF S 59 2 (nI n)) n (ccN cc n) := by
  have f := FD_IT i h rfl
  exact ⟨sF_s, f.1, fun k hk => by rw [sa_F]; exact f.2.1 k hk, f.2.2⟩
theorem PO_0 (cc : Nat → Nat) (n : Nat) : PO n ((pbl cc n 0, 0, 0) : PT) := ⟨pbl_le cc (Nat.zero_le n), Nat.zero_le 3, Nat.zero_le n⟩
theorem eqR_2 {v : Int64} (h1 : FRA F1 A1 S X) (h2 : FRA F2 A2 (S0 (sL X 0 v)) Z) (h0 : F 59 0 = false) (hF1 : ∀ a k, ¬ (F a k = true ∧ F1 a k = true)) (hA1 : ∀ a, ¬ (A a = true ∧ A1 a = true)) (hF2 : ∀ a k, ¬ (F a k = true ∧ F2 a k = true)) (hA2 : ∀ a, ¬ (A a = true ∧ A2 a = true)) : eqR F A S Z := by
  refine ⟨fun a k q => ?_, fun a q => ?_⟩
  · rw [h2.1 a k (Bool.eq_false_iff.mpr (fun w => hF2 a k ⟨q, w⟩))]
    show sf (sF (sL X 0 v) 59 0 0) a k = _
    rw [sf_o (fun e => by obtain ⟨rfl, rfl⟩ := e; rw [h0] at q; cases q)]
    exact h1.1 a k (Bool.eq_false_iff.mpr (fun w => hF1 a k ⟨q, w⟩))
  · rw [h2.2 a (Bool.eq_false_iff.mpr (fun w => hA2 a ⟨q, w⟩))]
    exact h1.2 a (Bool.eq_false_iff.mpr (fun w => hA1 a ⟨q, w⟩))
theorem CX_p {a b m : Nat} {wv : Nat → Nat × Nat} {f f' : Row} (h : eqR (fCp a b) (aCp a b) S X) (h2 : sp X 3 2 = sp S 3 2) (h3 : sp X 3 3 = sp S 3 3) (hR : RC d (sa X 16) f') (hX : CX S 3 16 17 a b d m wv f) : CX X 3 16 17 a b d m wv f' := by
  obtain ⟨hCL, hHL, hLL, hp2, hp3, hHC, hv, hW, hLC, hRC⟩ := hX
  have hb : sa X (b + 1) = sa S (b + 1) := h.2 _ (by unfold aCp; simp)
  exact ⟨hCL, hHL, hLL, h2.trans hp2, h3.trans hp3, HC_c hHC (fun k k1 k2 => h.1 a k (by unfold fCp; simp <;> omega)) (fun k k1 k2 => h.2 _ (by unfold aCp; simp <;> omega)), hv, hW, ⟨(h.1 b 2 (by unfold fCp; simp)).trans hLC.1, fun k hk => by rw [hb]; exact hLC.2 k hk⟩, hR⟩
theorem IL_p {q : Nat} {l : List (Nat × Nat)} (h : eqR (fLp q) (aLp q) S X) (hv : HV d) (i : IL S q d l) : IL X q d l := by
  have hl : l.length ≤ 10 := (LN_IL hv i).2.1
  obtain ⟨i1, i2, i3, i4⟩ := i
  refine ⟨⟨(h.1 q 1 (by unfold fLp; simp)).trans i1.1, fun r hr => ?_⟩, (h.1 59 35 (by unfold fLp; simp)).trans i2, fun k hk => ?_, i4⟩
  · rw [h.2 (q + 1) (by unfold aLp; simp)]; exact i1.2 r hr
  · rw [h.2 (431 + k) (by unfold aLp; simp <;> omega)]; exact i3 k hk
end RDG
section SWG
variable {g : Gp} {N N' : Mt} {hh : List (Nat × Nat × Nat × Nat)} {d2 : Nat} {as : List Value} {S : Sx} {w : Int32 → Int64} {P : Int32 → Sx → Prop}
theorem sw_g (h2 : d2 + 1 ≤ 60) (hC : WR g N hh (.ref 0 :: as ++ [.ref 562]) S (fun k Y => k = 0 ∧ ∃ x X, P x X ∧ Y = sL X 0 (w x))) (hM : ∀ x X, P x X → RI g N' d2 (.ref 59 :: as) (sL X 0 (w x)) (fun y Z => y = x ∧ sf Z 59 0 = 0 ∧ sl Z = sl (sL X 0 (w x)) ∧ INV Z)) : SW g INV N hh N' w as S := by
  refine ⟨d2, _, h2, hC, fun k Y hP => ?_⟩
  obtain ⟨rfl, x, X, hP, rfl⟩ := hP
  refine RI_m (hM x X hP) (fun y Z ⟨e1, e2, e3, e4⟩ => ⟨e2, fun _ => ?_, e4⟩)
  rw [e3, e1]
  show vp_updL (sl X) 0 (w x) 0 = w x
  simp [vp_updL]
end SWG
theorem IT_0 {S : Sx} {cc : Nat → Nat} (h1 : sf S 1 1 = 0) (h2 : sf S 59 1 = 0) : IT S 0 cc := ⟨by decide, h1, h2, fun k hk => absurd hk (Nat.not_lt_zero k)⟩
theorem rd_x {x : Int32} {tp mx : Nat} (h6 : tp ≤ 600) (hm : mx ≤ 600) (h : 0 ≤ x ∧ x ≤ nI tp ∧ x ≤ nI mx) : ∃ n, n ≤ tp ∧ n ≤ mx ∧ x = nI n := by
  obtain ⟨n, hn, rfl⟩ := n_of h.1
  exact ⟨n, (nI_leI hn (by omega)).mp h.2.1, (nI_leI hn (by omega)).mp h.2.2, rfl⟩
/-- what stands between two calls, name by name -/
def IX (S : Sx) (a a' b b' q q' : Nat) (d : HD) (m : Nat) (wv : Nat → Nat × Nat) (l : List (Nat × Nat)) (tp : Nat) (cc : Nat → Nat) (w im : Nat) (ws : Nat → Nat) : Prop := CX S 3 16 17 a b d m wv (sa S 535) ∧ IP S a a' b b' q q' ∧ IM S d m wv ∧ IL S q d l ∧ IT S tp cc ∧ IK S ∧ IW S d w ∧ II S d im ws
theorem INV_i {S : Sx} {a a' b b' q q' : Nat} {d : HD} {m : Nat} {wv : Nat → Nat × Nat} {l : List (Nat × Nat)} {tp : Nat} {cc : Nat → Nat} {w im : Nat} {ws : Nat → Nat} (h : IX S a a' b b' q q' d m wv l tp cc w im ws) : INV S := ⟨((a, a', b, b', q, q'), d, m, wv, l, tp, cc, w, im, ws), h⟩
theorem IX_B {S : Sx} {a a' b b' q q' : Nat} {d : HD} {m : Nat} {wv : Nat → Nat × Nat} {l : List (Nat × Nat)} {tp : Nat} {cc : Nat → Nat} {w im : Nat} {ws : Nat → Nat} (h : IX S a a' b b' q q' d m wv l tp cc w im ws) : IB S ((a, a', b, b', q, q'), d, m, wv, l, tp, cc, w, im, ws) := h
theorem INV_e {S : Sx} (h : INV S) : ∃ a a' b b' q q' d m wv l tp cc w im ws, IX S a a' b b' q q' d m wv l tp cc w im ws := by
  obtain ⟨⟨⟨a, a', b, b', q, q'⟩, d, m, wv, l, tp, cc, w, im, ws⟩, h⟩ := h
  exact ⟨a, a', b, b', q, q', d, m, wv, l, tp, cc, w, im, ws, h⟩
theorem st_seen {g : Gp} {S : Sx} (hl : (gl g).stackTraces = false) (hI : INV S) (x : Int32) : SW g INV mL_seen hL_seen mX11_seen wI [.int x] S := by
  obtain ⟨a, a', b, b', q, q', d, m, wv, l, tp, cc, w, im, ws, hB'⟩ := INV_e hI
  obtain ⟨c1, c2, c3, c4, c5, c6, c7, c8⟩ := id hB'
  have hB := IX_B hB'
  have hv : HV d := bhv hB
  have hW : LawW m wv := bW hB
  have bR : RG d (sa S 16) (sa S 535) := bRG hB
  have bg : HG S d := bG hB
  have ha : a = 4 ∨ a = 39 := c1.2.1
  have hb : b = 13 ∨ b = 48 := c1.2.2.1
  have hq : q = 37 ∨ q = 51 := c2.2.2.2.2.2.2.1
  have hq' : q' = 37 ∨ q' = 51 := c2.2.2.2.2.2.2.2.1
  have hne : q ≠ q' := c2.2.2.2.2.2.2.2.2.1
  by_cases hx : 0 ≤ x ∧ x ≤ nI tp ∧ x ≤ nI 60
  · obtain ⟨n, hn, hn60, rfl⟩ := rd_x c5.1 (by decide) hx
    have hTX := TX_IT c5 hn
    obtain ⟨r, hr⟩ := snl_ex (nr := dNr d) (hTX.2.2.2 n (Nat.le_refl n)) ⟨_, hTX⟩ n ((pbl (ccN cc n) n 0, 0, 0), []) (PO_0 _ n) (by show n ≤ pbl (ccN cc n) n 0 + n; omega)
    by_cases hr0 : r.1.2.1 = 0
    · refine sw_g (d2 := 8) (by decide) (wg_seen (by decide) (r_X10_seen c5.2.1 c5.1 hn hn60 (FC_IT c5 hn) c1.2.1 c1.2.2.2.2.2.1 hv c1.2.2.2.1 hr hq' c2.2.2.2.2.2.2.2.2.2.2 hr0 hq c2.2.2.2.2.2.2.2.2.2.1)) (fun y X hP => ?_)
      obtain ⟨rfl, hf, h11, h16, hSC⟩ := hP
      have fX : FRA (t1F (sgF q')) (sgA q') S X := ⟨hf.1.1, hf.1.2.2⟩
      have hs : sp X = up2 (up2 (sp S) 0 9 q') 0 12 q := hf.1.2.1
      have hGY : HG (sL X 0 (wI (nI r.2.length))) d := HG_cg bg hv (fun x' h => fX.2 x' (by have := hgR_lt h; unfold hgR at h; simp at h; unfold sgA; simp <;> omega))
      refine RI_m (r_X11_seen (S := sL X 0 (wI (nI r.2.length))) (HG_MH hGY hv) ((fX.1 59 1 (by unfold t1F sgF; simp <;> omega)).trans c5.2.2.1) c5.1 hn hn60 (FD_IT c5 hn (fX.2 60 (by unfold sgA; simp <;> omega))) hr hr0) (fun y Z hP => ?_)
      obtain ⟨rfl, hz, h591, h593, h5935, hSL, hSV⟩ := hP
      have fZ : FRA snF snA (S0 (sL X 0 (wI (nI r.2.length)))) Z := ⟨hz.1.1, hz.1.2.2⟩
      have z0 : sf Z 59 0 = 0 := (fZ.1 59 0 rfl).trans sF_s
      refine ⟨rfl, z0, hz.2, ?_⟩
      have sz : sp Z = sp X := hz.1.2.1
      have cF : ∀ x' k, x' < 59 → sf Z x' k = sf X x' k := fun x' k h => (fZ.1 x' k (by unfold snF pfF; simp <;> omega)).trans (sf_o (by omega))
      have cA : ∀ x', x' < 59 → sa Z x' = sa X x' := fun x' h => fZ.2 x' (by unfold snA pfA hA; simp <;> omega)
      have z16 : sa Z 16 = sa S 16 := (cA 16 (by decide)).trans (fX.2 16 (by unfold sgA; simp <;> omega))
      have z535 : sa Z 535 = sa S 535 := (fZ.2 535 rfl).trans (fX.2 535 (by unfold sgA; simp <;> omega))
      have z61 : sa Z 61 = sa S 61 := (fZ.2 61 rfl).trans (fX.2 61 (by unfold sgA; simp <;> omega))
      refine INV_i (a := a) (a' := a') (b := b) (b' := b') (q := q') (q' := q) (d := d) (m := m) (wv := wv) (l := r.2) (tp := 0) (cc := cc) (w := w) (im := im) (ws := ws) ⟨CX_p (S := S) (eqR_2 fX fZ (by unfold fCp; simp <;> omega) (fun x' k => by simp [fCp, t1F, sgF] <;> omega) (fun x' => by simp [aCp, sgA] <;> omega) (fun x' k => by simp [fCp, snF, pfF] <;> omega) (fun x' => by simp [aCp, snA, pfA, hA] <;> omega)) (by rw [sz, hs]; rfl) (by rw [sz, hs]; rfl) (by rw [z16, z535]; exact bR.1) c1, ?_, IM_r (S := S) (eqR_2 fX fZ (by unfold fIM; rfl) (fun x' k => by simp [fIM, t1F, sgF] <;> omega) (fun x' => by simp [aIM, hgR, sgA] <;> omega) (fun x' k => by simp [fIM, snF, pfF] <;> omega) (fun x' => by simp [aIM, hgR, snA, pfA, hA] <;> omega)) hv hW (by rw [z535]; exact bR.2.1) (by rw [z535]; exact bR.2.2) c3, ?_, IT_0 ((cF 1 1 (by decide)).trans h11) h591, ?_, IW_r (S := S) (eqR_2 fX fZ rfl (fun x' k => by simp [fIW, t1F, sgF] <;> omega) (fun x' => by simp [aIW, sgA] <;> omega) (fun x' k => by simp [fIW, snF, pfF] <;> omega) (fun x' => by simp [aIW, snA, pfA, hA] <;> omega)) c7, II_r (S := S) (eqR_2 fX fZ rfl (fun x' k => by simp [fII, t1F, sgF] <;> omega) (fun x' => by simp [aII, sgA] <;> omega) (fun x' k => by simp [fII, snF, pfF] <;> omega) (fun x' => by simp [aII, snA, pfA, hA] <;> omega)) hv c8⟩
      · obtain ⟨i1, i2, i3, i4, i5, i6, i7, i8, i9, i10, i11⟩ := c2
        exact ⟨i1, i2, by rw [sz, hs]; exact i3, i4, i5, by rw [sz, hs]; exact i6, i8, i7, fun e => i9 e.symm, by rw [sz, hs]; rfl, by rw [sz, hs]; rfl⟩
      · exact ⟨⟨(cF _ 1 (by show q' < 59; omega)).trans hSC.1, fun k hk => by rw [cA _ (by show q' + 1 < 59; omega)]; exact hSC.2 k hk⟩, h5935, hSL, hSV⟩
      · obtain ⟨i1, i2, i3, i4⟩ := c6
        refine ⟨(cF 1 6 (by decide)).trans (h16.trans h593.symm), ?_, ?_, ?_⟩
        · rw [cF 0 13 (by decide), fX.1 0 13 (by unfold t1F sgF; simp <;> omega), i2, fZ.1 59 37 rfl]
          show sf S 59 37 = sf (sF (sL X 0 _) 59 0 0) 59 37
          rw [sf_o (by decide)]
          exact (fX.1 59 37 (by unfold t1F sgF; simp <;> omega)).symm
        · rw [cF 0 14 (by decide), fX.1 0 14 (by unfold t1F sgF; simp <;> omega), z61, i3]
        · rw [cF 0 15 (by decide), fX.1 0 15 (by unfold t1F sgF; simp <;> omega), z61, i4]
    · refine sw_g (d2 := 8) (by decide) (wg_seen (by decide) (r_X10_seen_bad c5.2.1 c5.1 hn hn60 (FC_IT c5 hn) c1.2.1 c1.2.2.2.2.2.1 hv c1.2.2.2.1 hr hq' c2.2.2.2.2.2.2.2.2.2.2 hr0)) (fun y X hP => ?_)
      obtain ⟨rfl, hf, h11, h16⟩ := hP
      have fX : FRA (t1F (sgF q')) (sgA q') S X := ⟨hf.1.1, hf.1.2.2⟩
      have hs : sp X = sp S := hf.1.2.1
      have hGY : HG (sL X 0 (wI (nI r.1.2.1 - 10))) d := HG_cg bg hv (fun x' h => fX.2 x' (by have := hgR_lt h; unfold hgR at h; simp at h; unfold sgA; simp <;> omega))
      refine RI_m (r_X11_seen_bad (S := sL X 0 (wI (nI r.1.2.1 - 10))) (HG_MH hGY hv) ((fX.1 59 1 (by unfold t1F sgF; simp <;> omega)).trans c5.2.2.1) c5.1 hn hn60 (FD_IT c5 hn (fX.2 60 (by unfold sgA; simp <;> omega))) hr hr0) (fun y Z hP => ?_)
      obtain ⟨rfl, hz, h591, h593⟩ := hP
      have fZ : FRA pfF pfA (S0 (sL X 0 (wI (nI r.1.2.1 - 10)))) Z := ⟨hz.1.1, hz.1.2.2⟩
      have z0 : sf Z 59 0 = 0 := (fZ.1 59 0 rfl).trans sF_s
      refine ⟨rfl, z0, hz.2, ?_⟩
      have sz : sp Z = sp S := hz.1.2.1.trans hs
      have cF : ∀ x' k, x' < 59 → sf Z x' k = sf X x' k := fun x' k h => (fZ.1 x' k (by unfold pfF; simp <;> omega)).trans (sf_o (by omega))
      have cA : ∀ x', x' < 59 → sa Z x' = sa X x' := fun x' h => fZ.2 x' (by unfold pfA hA; simp <;> omega)
      have z16 : sa Z 16 = sa S 16 := (cA 16 (by decide)).trans (fX.2 16 (by unfold sgA; simp <;> omega))
      have z535 : sa Z 535 = sa S 535 := (fZ.2 535 rfl).trans (fX.2 535 (by unfold sgA; simp <;> omega))
      have z61 : sa Z 61 = sa S 61 := (fZ.2 61 rfl).trans (fX.2 61 (by unfold sgA; simp <;> omega))
      refine INV_i (a := a) (a' := a') (b := b) (b' := b') (q := q) (q' := q') (d := d) (m := m) (wv := wv) (l := l) (tp := 0) (cc := cc) (w := w) (im := im) (ws := ws) ⟨CX_p (S := S) (eqR_2 fX fZ (by unfold fCp; simp <;> omega) (fun x' k => by simp [fCp, t1F, sgF] <;> omega) (fun x' => by simp [aCp, sgA] <;> omega) (fun x' k => by simp [fCp, pfF] <;> omega) (fun x' => by simp [aCp, pfA, hA] <;> omega)) (by rw [sz]) (by rw [sz]) (by rw [z16, z535]; exact bR.1) c1, IP_r (fun k => by rw [sz]) c2, IM_r (S := S) (eqR_2 fX fZ (by unfold fIM; rfl) (fun x' k => by simp [fIM, t1F, sgF] <;> omega) (fun x' => by simp [aIM, hgR, sgA] <;> omega) (fun x' k => by simp [fIM, pfF] <;> omega) (fun x' => by simp [aIM, hgR, pfA, hA] <;> omega)) hv hW (by rw [z535]; exact bR.2.1) (by rw [z535]; exact bR.2.2) c3, IL_p (S := S) (eqR_2 fX fZ (by unfold fLp; simp <;> omega) (fun x' k => by simp [fLp, t1F, sgF] <;> omega) (fun x' => by simp [aLp, sgA] <;> omega) (fun x' k => by simp [fLp, pfF] <;> omega) (fun x' => by simp [aLp, pfA, hA] <;> omega)) hv c4, IT_0 ((cF 1 1 (by decide)).trans h11) h591, ?_, IW_r (S := S) (eqR_2 fX fZ rfl (fun x' k => by simp [fIW, t1F, sgF] <;> omega) (fun x' => by simp [aIW, sgA] <;> omega) (fun x' k => by simp [fIW, pfF] <;> omega) (fun x' => by simp [aIW, pfA, hA] <;> omega)) c7, II_r (S := S) (eqR_2 fX fZ rfl (fun x' k => by simp [fII, t1F, sgF] <;> omega) (fun x' => by simp [aII, sgA] <;> omega) (fun x' k => by simp [fII, pfF] <;> omega) (fun x' => by simp [aII, pfA, hA] <;> omega)) hv c8⟩
      obtain ⟨i1, i2, i3, i4⟩ := c6
      refine ⟨(cF 1 6 (by decide)).trans (h16.trans h593.symm), ?_, ?_, ?_⟩
      · rw [cF 0 13 (by decide), fX.1 0 13 (by unfold t1F sgF; simp <;> omega), i2, fZ.1 59 37 rfl]
        show sf S 59 37 = sf (sF (sL X 0 _) 59 0 0) 59 37
        rw [sf_o (by decide)]
        exact (fX.1 59 37 (by unfold t1F sgF; simp <;> omega)).symm
      · rw [cF 0 14 (by decide), fX.1 0 14 (by unfold t1F sgF; simp <;> omega), z61, i3]
      · rw [cF 0 15 (by decide), fX.1 0 15 (by unfold t1F sgF; simp <;> omega), z61, i4]
  · exact sw_e hB (k := 1) (by decide) (by decide) (we_seen_IA (by decide) (e_X10_seen hl c5.2.1 c5.1 hx)) (r_X11_seen_er (S := ce S 1) (tp := tp) c5.2.2.1 (fun h => hx ⟨h.1.1, h.1.2, h.2⟩)) (by decide)
