/-! ===== what steps come to ===== -/
/-- the row, steps begun, done, refused -/
abbrev AX : Type := Row × Nat × Nat × Nat
def itr (F : AX → AX) : Nat → AX → AX
  | 0, A => A
  | n + 1, A => if A.2.1 < 200 then itr F n (F A) else A
def gos (D : Row → Q4 → Row × Bool) (l : List Q4) : Nat → Nat → Nat → AX → AX
  | 0, _, _, A => A
  | f + 1, fr, to, A => if fr < to ∧ A.2.1 < 200 then (if (l.getD fr (0, 0, 0, 0)).1 = 6 then gos D l f (l.getD fr (0, 0, 0, 0)).2.2.2 to (itr (gos D l f (fr + 1) (l.getD fr (0, 0, 0, 0)).2.2.2) (l.getD fr (0, 0, 0, 0)).2.1 (A.1, A.2.1 + 1, A.2.2)) else gos D l f (l.getD fr (0, 0, 0, 0)).2.2.2 to ((D A.1 (l.getD fr (0, 0, 0, 0))).1, A.2.1 + 1, (if (D A.1 (l.getD fr (0, 0, 0, 0))).2 = true then (A.2.2.1 + 1, A.2.2.2) else (A.2.2.1, A.2.2.2 + 1)))) else A
theorem itr_b {F : AX → AX} (hF : ∀ A, A.2.1 ≤ 200 → (F A).2.1 ≤ 200) : ∀ n A, A.2.1 ≤ 200 → (itr F n A).2.1 ≤ 200
  | 0, A, h => h
  | n + 1, A, h => by
    unfold itr
    split
    · exact itr_b hF n _ (hF A h)
    · exact h
theorem gos_b (D : Row → Q4 → Row × Bool) (l : List Q4) : ∀ f fr to A, A.2.1 ≤ 200 → (gos D l f fr to A).2.1 ≤ 200
  | 0, _, _, A, h => h
  | f + 1, fr, to, A, h => by
    unfold gos
    split
    · next q =>
      split
      · exact gos_b D l f _ _ _ (itr_b (fun A h => gos_b D l f _ _ A h) _ _ (by show A.2.1 + 1 ≤ 200; omega))
      · exact gos_b D l f _ _ _ (by show A.2.1 + 1 ≤ 200; omega)
    · exact h
def okf (d : HD) (fr : Nat) (q : Q4) : Prop := okq d q ∧ (q.1 ≠ 6 → q.2.2.2 = fr + 1)
/-- a row of steps that is well made, at a depth -/
def SG (d : HD) (l : List Q4) : Nat → Nat → Nat → Nat → Prop
  | 0, _, fr, to => fr = to
  | f + 1, op, fr, to => fr = to ∨ (fr < (l.getD fr (0, 0, 0, 0)).2.2.2 ∧ (l.getD fr (0, 0, 0, 0)).2.2.2 ≤ to ∧ okf d fr (l.getD fr (0, 0, 0, 0)) ∧ ((l.getD fr (0, 0, 0, 0)).1 = 6 → op < 6 ∧ SG d l f (op + 1) (fr + 1) (l.getD fr (0, 0, 0, 0)).2.2.2) ∧ SG d l f op (l.getD fr (0, 0, 0, 0)).2.2.2 to)
theorem SG_s {d : HD} {l : List Q4} : ∀ f op fr to, SG d l f op fr to → SG d l (f + 1) op fr to
  | 0, op, fr, to, h => Or.inl h
  | f + 1, op, fr, to, h => by
    rcases h with h | ⟨h1, h2, h3, h4, h5⟩
    · exact Or.inl h
    · exact Or.inr ⟨h1, h2, h3, fun q => ⟨(h4 q).1, SG_s f _ _ _ (h4 q).2⟩, SG_s f _ _ _ h5⟩
theorem SG_le {d : HD} {l : List Q4} {f f' op fr to : Nat} (h : SG d l f op fr to) (hf : f ≤ f') : SG d l f' op fr to := by
  obtain ⟨k, rfl⟩ : ∃ k, f' = f + k := ⟨f' - f, by omega⟩
  induction k with
  | zero => exact h
  | succ k ih => exact SG_s _ _ _ _ (ih (by omega))
theorem SG_fr {d : HD} {l : List Q4} : ∀ {f op fr to}, SG d l f op fr to → fr ≤ to
  | 0, op, fr, to, h => Nat.le_of_eq h
  | f + 1, op, fr, to, h => by
    rcases h with h | ⟨h1, h2, h3, h4, h5⟩
    · exact Nat.le_of_eq h
    · omega
theorem SG_cg {d : HD} {l l' : List Q4} : ∀ {f op fr to}, (∀ i, fr ≤ i → i < to → l'.getD i (0, 0, 0, 0) = l.getD i (0, 0, 0, 0)) → SG d l f op fr to → SG d l' f op fr to
  | 0, op, fr, to, _, h => h
  | f + 1, op, fr, to, he, h => by
    rcases h with h | ⟨h1, h2, h3, h4, h5⟩
    · exact Or.inl h
    · refine Or.inr ?_
      rw [he fr (Nat.le_refl _) (by omega)]
      exact ⟨h1, h2, h3, fun q => ⟨(h4 q).1, SG_cg (fun i a b => he i (by omega) (by omega)) (h4 q).2⟩, SG_cg (fun i a b => he i (by omega) b) h5⟩
/-- one step -/
def SG1 (d : HD) (l : List Q4) (f op fr to : Nat) : Prop := fr < to ∧ (l.getD fr (0, 0, 0, 0)).2.2.2 = to ∧ okf d fr (l.getD fr (0, 0, 0, 0)) ∧ ((l.getD fr (0, 0, 0, 0)).1 = 6 → op < 6 ∧ SG d l f (op + 1) (fr + 1) to)
theorem SG_rs {S : Sx} {n : Nat} {cc : Nat → Nat} (hx : TX S n cc) {d : HD} : ∀ (f op : Nat) (s r : WS), op ≤ 6 → PO n s.1 → r.1.2.1 = 0 → (s.1.2.1 = 0 → rs cc n (dNs d) (dNr d) (dNp d) f 0 op s = some r → ∃ F, SG1 d r.2 F op s.2.length r.2.length) ∧ (rs cc n (dNs d) (dNr d) (dNp d) f 1 op s = some r → ∃ F, SG d r.2 F op s.2.length r.2.length)
  | 0, _, _, _, _, _, _ => ⟨fun _ h => (nomatch h), fun h => (nomatch h)⟩
  | f + 1, op, s, r, hop, hp, hr => by
    have hn := hx.2.2.2 n (Nat.le_refl n)
    refine ⟨fun h0 h => ?_, fun h => ?_⟩
    · have hT := RST_rs hx (f + 1) 0 op s r (by decide) hp (fun _ => h0) h
      rcases rs0_cs h with ⟨h1, rfl⟩ | ⟨h1, h2, rfl⟩ | ⟨h1, h2, s1, h3, rfl⟩ | ⟨k, hk, h1, rfl⟩
      · exact absurd hr (by show ¬ 1 = 0; omega)
      · exact absurd hr (by show ¬ 3 = 0; omega)
      · have a1 := RST_ag1 hx hp h0 h1
        have a2 := RST_rs hx f 1 (op + 1) _ s1 (by decide) a1.1 (fun q => nomatch q) h3
        have z1 : s1.1.2.1 = 0 := (psg_ok (psg_ok hr).1).1
        obtain ⟨y1, y2, y3, y4⟩ := a2.2 z1
        have hl1 : (ag1 cc n (pwe cc n (pbl cc n s.1.1), s.1.2) s.2).2.length = s.2.length + 1 := len1 _ _
        rw [hl1] at y4
        obtain ⟨F, hF⟩ := (SG_rs hx f (op + 1) _ s1 (by omega) a1.1 z1).2 h3
        rw [hl1] at hF
        have g0 : (ag2 cc n s.2.length (pnum cc n 0 41 (pwe cc n (pbl cc n s.1.1), s.1.2)).1 s1).2.length = s1.2.length := List.length_set
        have g1 : (ag2 cc n s.2.length (pnum cc n 0 41 (pwe cc n (pbl cc n s.1.1), s.1.2)).1 s1).2.getD s.2.length (0, 0, 0, 0) = (6, (pnum cc n 0 41 (pwe cc n (pbl cc n s.1.1), s.1.2)).1, 0, s1.2.length) := by
          show (s1.2.set s.2.length _).getD s.2.length (0, 0, 0, 0) = _
          rw [List.getD_eq_getElem?_getD, List.getElem?_set_self (by omega)]
          rfl
        refine ⟨F, ?_⟩
        unfold SG1
        rw [g1, g0]
        have hw := stp_w (pbl_le cc hp.1) h1
        have zz : (pnum cc n 0 41 (pwe cc n (pbl cc n s.1.1), s.1.2)).2.2.1 = 0 := (psg_ok (cc := cc) (n := n) (c := 91) y1).1
        have z2 := (pnum_ok (cc := cc) (lo := 0) (hi := 41) hn (show (pwe cc n (pbl cc n s.1.1), s.1.2).1 ≤ n from hw.2) zz).2.2.2.2
        refine ⟨by omega, rfl, ⟨⟨by show 6 ≤ 6; omega, fun z => ?_, fun z => ?_, fun z => ?_, fun _ => by show (pnum cc n 0 41 (pwe cc n (pbl cc n s.1.1), s.1.2)).1 ≤ 40; omega⟩, fun z => absurd rfl z⟩, fun _ => ⟨by omega, SG_cg (fun i a b => ?_) hF⟩⟩
        · exact absurd z (by show ¬ (6 = 0 ∨ 6 = 1 ∨ 6 = 3); omega)
        · exact absurd z (by show ¬ (6 = 2 ∨ 6 = 4); omega)
        · exact absurd z (by show ¬ 6 = 3; omega)
        · show (s1.2.set s.2.length _).getD i (0, 0, 0, 0) = _
          rw [List.getD_eq_getElem?_getD, List.getElem?_set_ne (by omega), ← List.getD_eq_getElem?_getD]
      · have hw := stp_w (pbl_le cc hp.1) h1
        have p0 : PO n ((pwe cc n (pbl cc n s.1.1), s.1.2) : PT) := ⟨hw.2, hp.2⟩
        have p1 := PO_sta hx p0 (dNs d) (dNr d) k
        have e1 := psg_ok (cc := cc) (n := n) (c := 59) hr
        have e2 := stb_ok hn p1.1 e1.1
        have e3 := sta_ok hn p0.1 e2.1
        refine ⟨0, ?_⟩
        unfold SG1
        have g0 : (sgo cc n (dNs d) (dNr d) (dNp d) k (pwe cc n (pbl cc n s.1.1), s.1.2) s.2).2.length = s.2.length + 1 := len1 _ _
        have g1 : (sgo cc n (dNs d) (dNr d) (dNp d) k (pwe cc n (pbl cc n s.1.1), s.1.2) s.2).2.getD s.2.length (0, 0, 0, 0) = (k, (sta cc n (dNs d) (dNr d) k (pwe cc n (pbl cc n s.1.1), s.1.2)).1, (stb cc n (dNp d) k (sta cc n (dNs d) (dNr d) k (pwe cc n (pbl cc n s.1.1), s.1.2)).2).1, s.2.length + 1) := getD_e
        rw [g1, g0]
        refine ⟨by omega, rfl, ⟨⟨by show k ≤ 6; omega, fun z => ?_, fun z => ?_, fun z => e2.2.2 z, fun z => ?_⟩, fun _ => rfl⟩, fun z => ?_⟩
        · have z : k = 0 ∨ k = 1 ∨ k = 3 := z
          have := e3.2.2 (by omega)
          rwa [if_neg (by omega)] at this
        · have z : k = 2 ∨ k = 4 := z
          have := e3.2.2 (by omega)
          rwa [if_pos z] at this
        · have z : k = 6 := z
          omega
        · have z : k = 6 := z
          omega
    · rcases rs1_cs h with ⟨_, rfl⟩ | ⟨h1, s1, h2, h3⟩
      · exact ⟨0, rfl⟩
      · have a1 := RST_rs hx f 0 op s s1 (by decide) hp (fun _ => h1.1) h2
        have p2 : PO n ((pbl cc n s1.1.1, s1.1.2) : PT) := ⟨pbl_le cc a1.1.1, a1.1.2⟩
        have a2 := RST_rs hx f 1 op ((pbl cc n s1.1.1, s1.1.2), s1.2) r (by decide) p2 (fun q => nomatch q) h3
        obtain ⟨b1, b2, b3, b4⟩ := a2.2 hr
        obtain ⟨c1, c2, c3, c4⟩ := a1.2 b1
        obtain ⟨F1, hF1, hF2, hF3, hF4⟩ := (SG_rs hx f op s s1 hop hp b1).1 h1.1 h2
        obtain ⟨F2, hG⟩ := (SG_rs hx f op ((pbl cc n s1.1.1, s1.1.2), s1.2) r hop p2 hr).2 h3
        have kp := rs_keep hx f 1 op ((pbl cc n s1.1.1, s1.1.2), s1.2) r (by decide) p2 (fun q => nomatch q) h3 hr
        have kp : ∀ i, i < s1.2.length → r.2.getD i (0, 0, 0, 0) = s1.2.getD i (0, 0, 0, 0) := kp
        have b4 : s1.2.length ≤ r.2.length := b4
        refine ⟨F1 + F2 + 1, Or.inr ?_⟩
        rw [kp _ hF1, hF2]
        exact ⟨hF1, b4, hF3, fun q => ⟨(hF4 q).1, SG_cg (fun i a b => kp i b) (SG_le (hF4 q).2 (by omega))⟩, SG_le hG (by omega)⟩
/-! the model does them -/
def gxS (S : Sx) (A : AX) : Sx := sAA (sF (sF (sF S 59 40 (nI A.2.1)) 59 41 (nI A.2.2.1)) 59 37 (nI A.2.2.2)) 535 A.1
theorem up2_c {f : Nat → Nat → Int32} {a j k : Nat} {v w : Int32} (h : j ≠ k) : up2 (up2 f a j v) a k w = up2 (up2 f a k w) a j v := up2_cm f h v w
theorem gx_b (S : Sx) (A : AX) (b : Nat) : sF (gxS S A) 59 40 (nI b) = gxS S (A.1, b, A.2.2) := by
  have : up2 (up2 (up2 (up2 (sf S) 59 40 (nI A.2.1)) 59 41 (nI A.2.2.1)) 59 37 (nI A.2.2.2)) 59 40 (nI b) = up2 (up2 (up2 (sf S) 59 40 (nI b)) 59 41 (nI A.2.2.1)) 59 37 (nI A.2.2.2) := by
    rw [up2_c (by decide), up2_c (j := 41) (k := 40) (by decide), up2_up2]
  show (up2 (up2 (up2 (up2 (sf S) 59 40 (nI A.2.1)) 59 41 (nI A.2.2.1)) 59 37 (nI A.2.2.2)) 59 40 (nI b), sp S, _, sl S, sx S) = _
  rw [this]
  rfl
theorem gx_d (S : Sx) (A : AX) (x : Nat) : sF (gxS S A) 59 41 (nI x) = gxS S (A.1, A.2.1, x, A.2.2.2) := by
  have : up2 (up2 (up2 (up2 (sf S) 59 40 (nI A.2.1)) 59 41 (nI A.2.2.1)) 59 37 (nI A.2.2.2)) 59 41 (nI x) = up2 (up2 (up2 (sf S) 59 40 (nI A.2.1)) 59 41 (nI x)) 59 37 (nI A.2.2.2) := by
    rw [up2_c (by decide), up2_up2]
  show (up2 (up2 (up2 (up2 (sf S) 59 40 (nI A.2.1)) 59 41 (nI A.2.2.1)) 59 37 (nI A.2.2.2)) 59 41 (nI x), sp S, _, sl S, sx S) = _
  rw [this]
  rfl
theorem gx_r (S : Sx) (A : AX) (x : Nat) : sF (gxS S A) 59 37 (nI x) = gxS S (A.1, A.2.1, A.2.2.1, x) := by
  show (up2 (up2 (up2 (up2 (sf S) 59 40 (nI A.2.1)) 59 41 (nI A.2.2.1)) 59 37 (nI A.2.2.2)) 59 37 (nI x), sp S, _, sl S, sx S) = _
  rw [up2_up2]
  rfl
theorem gx_o {S : Sx} {A : AX} {b : Nat} (h : b ≠ 535) : sa (gxS S A) b = sa S b := sAA_o h
theorem HG_AA {S : Sx} {d : HD} (h : HG S d) (hv : HV d) {a : Nat} (ha : 200 ≤ a) (f : Row) : HG (sAA S a f) d := by
  have e : ∀ b, b < 200 → sa (sAA S a f) b = sa S b := fun b hb => sAA_o (by omega)
  obtain ⟨h1, h2, h3, h4, h5, h6, h7⟩ := h
  have v1 := hv.2.1
  have v2 := hv.2.2.1
  refine ⟨by rw [e _ (by decide)]; exact h1, by rw [e _ (by decide)]; exact h2, by rw [e _ (by decide)]; exact h3, fun i hi => by rw [e _ (by decide)]; exact h4 i hi, fun i hi => by rw [e _ (by decide)]; exact h5 i hi, fun i hi => ?_, fun i hi => ?_⟩
  · have : i < dNr d := hi
    rw [e _ (by omega)]
    exact h6 i hi
  · have : i < dNp d := hi
    rw [e _ (by omega)]
    exact h7 i hi
theorem LawM_AA {S : Sx} {m : Nat} {wv : Nat → Nat × Nat} (h : LawM S m wv) (hW : LawW m wv) {a : Nat} (ha : 300 ≤ a) (f : Row) : LawM (sAA S a f) m wv := ⟨h.1, fun k hk => by
  have := hW.1
  rw [sAA_o (by omega)]
  exact h.2 k hk⟩
def STL (S : Sx) (l : List Q4) : Prop := l.length ≤ 80 ∧ ∀ i, i < l.length → STQ S i (l.getD i (0, 0, 0, 0)) ∧ sa S (455 + i) 3 = nI (l.getD i (0, 0, 0, 0)).2.2.2
theorem STQ_gx {S : Sx} {A : AX} {i : Nat} {q : Q4} (h : STQ S i q) (hi : i < 80) : STQ (gxS S A) i q := by
  unfold STQ
  rw [gx_o (show 455 + i ≠ 535 by omega)]
  exact h
def GOJ (g : Gp) (S : Sx) (D : Row → Q4 → Row × Bool) (d : HD) (l : List Q4) (f : Nat) : Prop := ∀ (op fr to : Nat) (A : AX) (x1 x4 : Option Value) (T : Sx) (sz : Nat) (Q : Po), op ≤ 6 → SG d l f op fr to → to ≤ l.length → A.2.1 ≤ 200 → (∀ T', Q (.inl none) (hs (w1 (gxS S (gos D l f fr to A)) T')) sz) → J g mX11_goes (16 - op) [] 2 [some (.ref 59), x1, some (.int (nI to)), some (.int (nI fr)), x4] [] (hs (w1 (gxS S A) T)) sz 0 0 Q
theorem go_rw {g : Gp} {S : Sx} {D : Row → Q4 → Row × Bool} {d : HD} {l : List Q4} {f : Nat} (h : GOJ g S D d l f) {op fr to : Nat} {A : AX} (hop : op ≤ 6) (hs : SG d l f op fr to) (ht : to ≤ l.length) (hA : A.2.1 ≤ 200) : RW g mX11_goes (16 - op) [.ref 59, .int (nI fr), .int (nI to)] (gxS S A) none (gxS S (gos D l f fr to A)) := by
  refine RW_ofQ ⟨rfl, rfl⟩ (Nat.le_of_ble_eq_true rfl) (fun T sz Q hQ => ?_)
  refine J_iload_n (pc := 0) dX11_goes_0 rfl ?_
  refine J_istore_n (pc := 1) dX11_goes_1 (by decide) rfl ?_
  exact h op fr to A _ _ T sz Q hop hs ht hA hQ
theorem go_j {g : Gp} {S : Sx} {d : HD} {m : Nat} {wv : Nat → Nat × Nat} {l : List Q4} (hG : HG S d) (hV : HV d) (hW : LawW m wv) (hM : LawM S m wv) (hL : STL S l) : ∀ f, GOJ g S (doA d m wv) d l f := by
  obtain ⟨h80, hL⟩ := hL
  intro f
  induction f with
  | zero =>
    intro op fr to A x1 x4 T sz Q hop hs ht hA hQ
    have hfr : to ≤ fr := Nat.le_of_eq (Eq.symm hs)
    have hfr2 : fr = to := hs
    refine J_iload_n (pc := 2) dX11_goes_2 rfl ?_
    refine J_iload_n (pc := 3) dX11_goes_3 rfl ?_
    refine J_icmp_ge (pc := 4) (tgt := 156) dX11_goes_4 (by decide) (fun c4 => ?_) (fun c4 => absurd (nI_le hfr (by omega)) c4)
    exact J_ret (pc := 156) rfl rfl dX11_goes_156 (hQ T)
  | succ f ih =>
    intro op fr to A x1 x4 T sz Q hop hs ht hA hQ
    have hsf := SG_fr hs
    by_cases hlt : fr < to
    · by_cases hb : A.2.1 < 200
      · rcases hs with hs | ⟨s1, s2, s3, s4, s5⟩
        · omega
        · obtain ⟨q, hqe⟩ : ∃ q, q = l.getD fr (0, 0, 0, 0) := ⟨_, rfl⟩
          have hq2 := hL fr (by omega)
          have hg : gos (doA d m wv) l (f + 1) fr to A = if q.1 = 6 then gos (doA d m wv) l f q.2.2.2 to (itr (gos (doA d m wv) l f (fr + 1) q.2.2.2) q.2.1 (A.1, A.2.1 + 1, A.2.2)) else gos (doA d m wv) l f q.2.2.2 to ((doA d m wv A.1 q).1, A.2.1 + 1, (if (doA d m wv A.1 q).2 = true then (A.2.2.1 + 1, A.2.2.2) else (A.2.2.1, A.2.2.2 + 1))) := by
            rw [hqe]
            exact if_pos ⟨hlt, hb⟩
          rw [← hqe] at s1 s2 s3 s4 s5 hq2
          obtain ⟨hq, he⟩ := hq2
          clear hqe
          obtain ⟨A1, hA1⟩ : ∃ B, B = ((A.1, A.2.1 + 1, A.2.2) : AX) := ⟨_, rfl⟩
          have post : ∀ (B : AX) (T : Sx) (x4 : Option Value), B.2.1 ≤ 200 → (∀ T', Q (.inl none) (hs (w1 (gxS S (gos (doA d m wv) l f q.2.2.2 to B)) T')) sz) → J g mX11_goes (16 - op) [] 144 [some (.ref 59), x1, some (.int (nI to)), some (.int (nI fr)), x4] [] (hs (w1 (gxS S B) T)) sz 0 0 Q := by
            intro B T x4 hB hQ2
            refine J_aload_n (pc := 144) dX11_goes_144 rfl ?_
            refine J_getr (pc := 145) dX11_goes_145 kc11 fl_X11_70 rfl ?_
            refine J_iload_n (pc := 148) dX11_goes_148 rfl ?_
            refine J_ar1 (pc := 149) dX11_goes_149 rfl rfl ⟨by omega, by decide⟩ ?_
            refine J_iconst (pc := 150) (v := 3) dX11_goes_150 (by decide) ?_
            refine J_il (pc := 151) dX11_goes_151 (lay_step (by omega)) (rfl : (3 : Int32) = nI 3) ⟨by first | decide | omega, by decide⟩ ?_
            refine J_t1 (y := nI q.2.2.2) ((congrFun (gx_o (A := B) (show 455 + fr ≠ 535 by omega)) 3).trans he) ?_
            refine J_istore_n (pc := 152) dX11_goes_152 (by decide) rfl ?_
            refine J_goto (pc := 153) (tgt := 2) dX11_goes_153 (by decide) ?_
            exact ih op q.2.2.2 to B x1 _ T sz Q hop s5 ht hB hQ2
          by_cases h6 : q.1 = 6
          · rw [if_pos h6] at hg
            rw [hg, ← hA1] at hQ
            obtain ⟨ho6, s4⟩ := s4 h6
            have ha40 := s3.1.2.2.2.2 h6
            have lc : ∀ (c j : Nat) (B : AX) (T : Sx), j + c = q.2.1 → B.2.1 ≤ 200 → (∀ (T : Sx) (x4 : Option Value), J g mX11_goes (16 - op) [] 87 [some (.ref 59), x1, some (.int (nI to)), some (.int (nI fr)), x4] [] (hs (w1 (gxS S (itr (gos (doA d m wv) l f (fr + 1) q.2.2.2) c B)) T)) sz 0 0 Q) → J g mX11_goes (16 - op) [] 43 [some (.ref 59), x1, some (.int (nI to)), some (.int (nI fr)), some (.int (nI j))] [] (hs (w1 (gxS S B) T)) sz 0 0 Q := by
              intro c
              induction c with
              | zero =>
                intro j B T hj hB hx
                refine J_iload (pc := 43) dX11_goes_43 rfl ?_
                refine J_aload_n (pc := 45) dX11_goes_45 rfl ?_
                refine J_getr (pc := 46) dX11_goes_46 kc11 fl_X11_70 rfl ?_
                refine J_iload_n (pc := 49) dX11_goes_49 rfl ?_
                refine J_ar1 (pc := 50) dX11_goes_50 rfl rfl ⟨by omega, by decide⟩ ?_
                refine J_iconst (pc := 51) (v := 1) dX11_goes_51 (by decide) ?_
                refine J_il (pc := 52) dX11_goes_52 (lay_step (by omega)) (rfl : (1 : Int32) = nI 1) ⟨by first | decide | omega, by decide⟩ ?_
                refine J_t1 (y := nI q.2.1) ((congrFun (gx_o (A := B) (show 455 + fr ≠ 535 by omega)) 1).trans (hq.2.1 (by omega))) ?_
                refine J_icmp_ge (pc := 53) (tgt := 87) dX11_goes_53 (by decide) (fun c53 => ?_) (fun c53 => absurd (nI_le (by omega) (by omega)) c53)
                exact hx T (some (.int (nI j)))
              | succ c lc =>
                intro j B T hj hB hx
                by_cases qb : B.2.1 < 200
                · have hi : itr (gos (doA d m wv) l f (fr + 1) q.2.2.2) (c + 1) B = itr (gos (doA d m wv) l f (fr + 1) q.2.2.2) c (gos (doA d m wv) l f (fr + 1) q.2.2.2 B) := if_pos qb
                  rw [hi] at hx
                  refine J_iload (pc := 43) dX11_goes_43 rfl ?_
                  refine J_aload_n (pc := 45) dX11_goes_45 rfl ?_
                  refine J_getr (pc := 46) dX11_goes_46 kc11 fl_X11_70 rfl ?_
                  refine J_iload_n (pc := 49) dX11_goes_49 rfl ?_
                  refine J_ar1 (pc := 50) dX11_goes_50 rfl rfl ⟨by omega, by decide⟩ ?_
                  refine J_iconst (pc := 51) (v := 1) dX11_goes_51 (by decide) ?_
                  refine J_il (pc := 52) dX11_goes_52 (lay_step (by omega)) (rfl : (1 : Int32) = nI 1) ⟨by first | decide | omega, by decide⟩ ?_
                  refine J_t1 (y := nI q.2.1) ((congrFun (gx_o (A := B) (show 455 + fr ≠ 535 by omega)) 1).trans (hq.2.1 (by omega))) ?_
                  refine J_icmp_ge (pc := 53) (tgt := 87) dX11_goes_53 (by decide) (fun c53 => absurd c53 (nI_ge (by omega) (by omega))) (fun c53 => ?_)
                  refine J_aload_n (pc := 56) dX11_goes_56 rfl ?_
                  refine J_geti (pc := 57) dX11_goes_57 kc11 fl_X11_312 rfl ?_
                  refine J_t1 (y := nI B.2.1) rfl ?_
                  refine J_sipush (pc := 60) (v := 200) dX11_goes_60 (by decide) ?_
                  refine J_icmp_ge (pc := 63) (tgt := 87) dX11_goes_63 (by decide) (fun c63 => absurd c63 (nI_ge qb (by decide))) (fun c63 => ?_)
                  refine J_aload_n (pc := 66) dX11_goes_66 rfl ?_
                  refine J_iload_n (pc := 67) dX11_goes_67 rfl ?_
                  refine J_iconst (pc := 68) (v := 1) dX11_goes_68 (by decide) ?_
                  refine J_iadd (pc := 69) dX11_goes_69 ?_
                  refine J_t1 (y := nI (fr + 1)) (nI_1 fr) ?_
                  refine J_aload_n (pc := 70) dX11_goes_70 rfl ?_
                  refine J_getr (pc := 71) dX11_goes_71 kc11 fl_X11_70 rfl ?_
                  refine J_iload_n (pc := 74) dX11_goes_74 rfl ?_
                  refine J_ar1 (pc := 75) dX11_goes_75 rfl rfl ⟨by omega, by decide⟩ ?_
                  refine J_iconst (pc := 76) (v := 3) dX11_goes_76 (by decide) ?_
                  refine J_il (pc := 77) dX11_goes_77 (lay_step (by omega)) (rfl : (3 : Int32) = nI 3) ⟨by first | decide | omega, by decide⟩ ?_
                  refine J_t1 (y := nI q.2.2.2) ((congrFun (gx_o (A := B) (show 455 + fr ≠ 535 by omega)) 3).trans he) ?_
                  refine J_cvx (pc := 78) (N := mX11_goes) dX11_goes_78 ml_X11_315 cf_X11_goes cv_X11_goes (go_rw ih (op := op + 1) (fr := fr + 1) (to := q.2.2.2) (A := B) (by omega) s4 (by omega) hB) rfl rfl (Nat.le_of_ble_eq_true rfl) (by omega) (rv_of (ci := 11) rfl rfl rfl) ?_
                  intro T
                  refine J_iinc (pc := 81) (v := 1) dX11_goes_81 rfl (by decide) rfl ?_
                  refine J_goto (pc := 84) (tgt := 43) dX11_goes_84 (by decide) ?_
                  refine J_cg1 (ls' := [some (.ref 59), x1, some (.int (nI to)), some (.int (nI fr)), some (.int (nI (j + 1)))]) (by rw [← nI_1]; rfl) ?_
                  exact lc (j + 1) (gos (doA d m wv) l f (fr + 1) q.2.2.2 B) T (by omega) (gos_b _ _ _ _ _ _ hB) hx
                · have hi : itr (gos (doA d m wv) l f (fr + 1) q.2.2.2) (c + 1) B = B := if_neg qb
                  rw [hi] at hx
                  refine J_iload (pc := 43) dX11_goes_43 rfl ?_
                  refine J_aload_n (pc := 45) dX11_goes_45 rfl ?_
                  refine J_getr (pc := 46) dX11_goes_46 kc11 fl_X11_70 rfl ?_
                  refine J_iload_n (pc := 49) dX11_goes_49 rfl ?_
                  refine J_ar1 (pc := 50) dX11_goes_50 rfl rfl ⟨by omega, by decide⟩ ?_
                  refine J_iconst (pc := 51) (v := 1) dX11_goes_51 (by decide) ?_
                  refine J_il (pc := 52) dX11_goes_52 (lay_step (by omega)) (rfl : (1 : Int32) = nI 1) ⟨by first | decide | omega, by decide⟩ ?_
                  refine J_t1 (y := nI q.2.1) ((congrFun (gx_o (A := B) (show 455 + fr ≠ 535 by omega)) 1).trans (hq.2.1 (by omega))) ?_
                  refine J_icmp_ge (pc := 53) (tgt := 87) dX11_goes_53 (by decide) (fun c53 => absurd c53 (nI_ge (by omega) (by omega))) (fun c53 => ?_)
                  refine J_aload_n (pc := 56) dX11_goes_56 rfl ?_
                  refine J_geti (pc := 57) dX11_goes_57 kc11 fl_X11_312 rfl ?_
                  refine J_t1 (y := nI B.2.1) rfl ?_
                  refine J_sipush (pc := 60) (v := 200) dX11_goes_60 (by decide) ?_
                  refine J_icmp_ge (pc := 63) (tgt := 87) dX11_goes_63 (by decide) (fun c63 => ?_) (fun c63 => absurd ((nI_leI (a := 200) (by decide) (by omega)).mpr (by omega)) c63)
                  exact hx T (some (.int (nI j)))
            refine J_iload_n (pc := 2) dX11_goes_2 rfl ?_
            refine J_iload_n (pc := 3) dX11_goes_3 rfl ?_
            refine J_icmp_ge (pc := 4) (tgt := 156) dX11_goes_4 (by decide) (fun c4 => absurd c4 (nI_ge hlt (by omega))) (fun c4 => ?_)
            refine J_aload_n (pc := 7) dX11_goes_7 rfl ?_
            refine J_geti (pc := 8) dX11_goes_8 kc11 fl_X11_312 rfl ?_
            refine J_t1 (y := nI A.2.1) rfl ?_
            refine J_sipush (pc := 11) (v := 200) dX11_goes_11 (by decide) ?_
            refine J_icmp_ge (pc := 14) (tgt := 156) dX11_goes_14 (by decide) (fun c14 => absurd c14 (nI_ge hb (by decide))) (fun c14 => ?_)
            refine J_aload_n (pc := 17) dX11_goes_17 rfl ?_
            refine J_dup (pc := 18) dX11_goes_18 rfl ?_
            refine J_geti (pc := 19) dX11_goes_19 kc11 fl_X11_312 rfl ?_
            refine J_t1 (y := nI A.2.1) rfl ?_
            refine J_iconst (pc := 22) (v := 1) dX11_goes_22 (by decide) ?_
            refine J_iadd (pc := 23) dX11_goes_23 ?_
            refine J_t1 (y := nI (A.2.1 + 1)) (nI_1 _) ?_
            refine J_putiw (pc := 24) dX11_goes_24 kc11 fl_X11_312 rfl ⟨rfl, rfl⟩ ?_
            refine J_cg2 (S' := w1 (gxS S (A.1, A.2.1 + 1, A.2.2)) T) (congrArg (fun z => w1 z T) (gx_b S A (A.2.1 + 1))) ?_
            rw [← hA1]
            refine J_aload_n (pc := 27) dX11_goes_27 rfl ?_
            refine J_getr (pc := 28) dX11_goes_28 kc11 fl_X11_70 rfl ?_
            refine J_iload_n (pc := 31) dX11_goes_31 rfl ?_
            refine J_ar1 (pc := 32) dX11_goes_32 rfl rfl ⟨by omega, by decide⟩ ?_
            refine J_iconst (pc := 33) (v := 0) dX11_goes_33 (by decide) ?_
            refine J_il (pc := 34) dX11_goes_34 (lay_step (by omega)) (rfl : (0 : Int32) = nI 0) ⟨by first | decide | omega, by decide⟩ ?_
            refine J_t1 (y := nI q.1) ((congrFun (gx_o (A := A1) (show 455 + fr ≠ 535 by omega)) 0).trans hq.1) ?_
            refine J_bipush (pc := 35) (v := 6) dX11_goes_35 (by decide) ?_
            refine J_icmp_ne (pc := 37) (tgt := 90) dX11_goes_37 (by decide) (fun c37 => absurd (by rw [h6]; rfl) c37) (fun c37 => ?_)
            refine J_iconst (pc := 40) (v := 0) dX11_goes_40 (by decide) ?_
            refine J_istore (pc := 41) dX11_goes_41 (by decide) rfl ?_
            refine lc q.2.1 0 A1 T (by omega) (by rw [hA1]; show A.2.1 + 1 ≤ 200; omega) (fun T x4 => ?_)
            refine J_goto (pc := 87) (tgt := 144) dX11_goes_87 (by decide) ?_
            exact post _ T x4 (itr_b (fun A h => gos_b _ _ _ _ _ A h) _ _ (by rw [hA1]; show A.2.1 + 1 ≤ 200; omega)) hQ
          · rw [if_neg h6] at hg
            rw [hg] at hQ
            cases hok : (doA d m wv A.1 q).2
            · rw [hok] at hQ
              have hQ : ∀ T', Q (.inl none) (hs (w1 (gxS S (gos (doA d m wv) l f q.2.2.2 to ((doA d m wv A.1 q).1, A.2.1 + 1, A.2.2.1, A.2.2.2 + 1))) T')) sz := hQ
              refine J_iload_n (pc := 2) dX11_goes_2 rfl ?_
              refine J_iload_n (pc := 3) dX11_goes_3 rfl ?_
              refine J_icmp_ge (pc := 4) (tgt := 156) dX11_goes_4 (by decide) (fun c4 => absurd c4 (nI_ge hlt (by omega))) (fun c4 => ?_)
              refine J_aload_n (pc := 7) dX11_goes_7 rfl ?_
              refine J_geti (pc := 8) dX11_goes_8 kc11 fl_X11_312 rfl ?_
              refine J_t1 (y := nI A.2.1) rfl ?_
              refine J_sipush (pc := 11) (v := 200) dX11_goes_11 (by decide) ?_
              refine J_icmp_ge (pc := 14) (tgt := 156) dX11_goes_14 (by decide) (fun c14 => absurd c14 (nI_ge hb (by decide))) (fun c14 => ?_)
              refine J_aload_n (pc := 17) dX11_goes_17 rfl ?_
              refine J_dup (pc := 18) dX11_goes_18 rfl ?_
              refine J_geti (pc := 19) dX11_goes_19 kc11 fl_X11_312 rfl ?_
              refine J_t1 (y := nI A.2.1) rfl ?_
              refine J_iconst (pc := 22) (v := 1) dX11_goes_22 (by decide) ?_
              refine J_iadd (pc := 23) dX11_goes_23 ?_
              refine J_t1 (y := nI (A.2.1 + 1)) (nI_1 _) ?_
              refine J_putiw (pc := 24) dX11_goes_24 kc11 fl_X11_312 rfl ⟨rfl, rfl⟩ ?_
              refine J_cg2 (S' := w1 (gxS S (A.1, A.2.1 + 1, A.2.2)) T) (congrArg (fun z => w1 z T) (gx_b S A (A.2.1 + 1))) ?_
              rw [← hA1]
              refine J_aload_n (pc := 27) dX11_goes_27 rfl ?_
              refine J_getr (pc := 28) dX11_goes_28 kc11 fl_X11_70 rfl ?_
              refine J_iload_n (pc := 31) dX11_goes_31 rfl ?_
              refine J_ar1 (pc := 32) dX11_goes_32 rfl rfl ⟨by omega, by decide⟩ ?_
              refine J_iconst (pc := 33) (v := 0) dX11_goes_33 (by decide) ?_
              refine J_il (pc := 34) dX11_goes_34 (lay_step (by omega)) (rfl : (0 : Int32) = nI 0) ⟨by first | decide | omega, by decide⟩ ?_
              refine J_t1 (y := nI q.1) ((congrFun (gx_o (A := A1) (show 455 + fr ≠ 535 by omega)) 0).trans hq.1) ?_
              refine J_bipush (pc := 35) (v := 6) dX11_goes_35 (by decide) ?_
              refine J_icmp_ne (pc := 37) (tgt := 90) dX11_goes_37 (by decide) (fun c37 => ?_) (fun c37 => absurd c37 (fun z => h6 ((nI_eq (by have := s3.1.1; omega) (by decide)).mp (z.trans (show (6 : Int32) = nI 6 from rfl)))))
              refine J_aload_n (pc := 90) dX11_goes_90 rfl ?_
              refine J_aload_n (pc := 91) dX11_goes_91 rfl ?_
              refine J_getr (pc := 92) dX11_goes_92 kc11 fl_X11_73 rfl ?_
              refine J_aload_n (pc := 95) dX11_goes_95 rfl ?_
              refine J_getr (pc := 96) dX11_goes_96 kc11 fl_X11_70 rfl ?_
              refine J_iload_n (pc := 99) dX11_goes_99 rfl ?_
              refine J_ar1 (pc := 100) dX11_goes_100 rfl rfl ⟨by omega, by decide⟩ ?_
              refine J_cvw (pc := 101) (N := mX11_does) dX11_goes_101 ml_X11_318 cf_X11_does cv_X11_does (r_X11_does (S := gxS S A1) (d := d) (m := m) (wv := wv) (i := fr) (q := q) (HG_AA (show HG (sF (sF (sF S 59 40 (nI A1.2.1)) 59 41 (nI A1.2.2.1)) 59 37 (nI A1.2.2.2)) d from hG) hV (by decide) A1.1) hV hW (LawM_AA (show LawM (sF (sF (sF S 59 40 (nI A1.2.1)) 59 41 (nI A1.2.2.1)) 59 37 (nI A1.2.2.2)) m wv from hM) hW (by decide) A1.1) (by omega) (STQ_gx hq (by omega)) s3.1 h6) rfl rfl (Nat.le_of_ble_eq_true rfl) (by omega) (rv_of (ci := 11) rfl rfl rfl) ?_
              intro T
              rw [show sa (gxS S A1) 535 = A.1 by rw [hA1]; exact sAA_s _ _ _, hok]
              refine J_t1 (y := 0) rfl ?_
              refine J_cg2 (S' := w1 (gxS S ((doA d m wv A.1 q).1, A.2.1 + 1, A.2.2.1, A.2.2.2)) T) (congrArg (fun z => w1 z T) (by rw [hA1]; exact sAA_sAA _ _ _ _)) ?_
              refine J_istore (pc := 104) dX11_goes_104 (by decide) rfl ?_
              refine J_aload_n (pc := 106) dX11_goes_106 rfl ?_
              refine J_dup (pc := 107) dX11_goes_107 rfl ?_
              refine J_geti (pc := 108) dX11_goes_108 kc11 fl_X11_322 rfl ?_
              refine J_t1 (y := nI A.2.2.1) rfl ?_
              refine J_iload (pc := 111) dX11_goes_111 rfl ?_
              refine J_if_eq (pc := 113) (tgt := 120) dX11_goes_113 (by decide) (fun c113 => ?_) (fun c113 => absurd rfl c113)
              refine J_iconst (pc := 120) (v := 0) dX11_goes_120 (by decide) ?_
              refine J_iadd (pc := 121) dX11_goes_121 ?_
              refine J_t1 (y := nI A.2.2.1) (Int32.add_zero _) ?_
              refine J_putiw (pc := 122) dX11_goes_122 kc11 fl_X11_322 rfl ⟨rfl, rfl⟩ ?_
              refine J_cg2 (S' := w1 (gxS S ((doA d m wv A.1 q).1, A.2.1 + 1, A.2.2.1, A.2.2.2)) T) (congrArg (fun z => w1 z T) (gx_d S ((doA d m wv A.1 q).1, A.2.1 + 1, A.2.2.1, A.2.2.2) _)) ?_
              refine J_aload_n (pc := 125) dX11_goes_125 rfl ?_
              refine J_dup (pc := 126) dX11_goes_126 rfl ?_
              refine J_geti (pc := 127) dX11_goes_127 kc11 fl_X11_209 rfl ?_
              refine J_t1 (y := nI A.2.2.2) rfl ?_
              refine J_iload (pc := 130) dX11_goes_130 rfl ?_
              refine J_if_eq (pc := 132) (tgt := 139) dX11_goes_132 (by decide) (fun c132 => ?_) (fun c132 => absurd rfl c132)
              refine J_iconst (pc := 139) (v := 1) dX11_goes_139 (by decide) ?_
              refine J_iadd (pc := 140) dX11_goes_140 ?_
              refine J_t1 (y := nI (A.2.2.2 + 1)) (nI_1 _) ?_
              refine J_putiw (pc := 141) dX11_goes_141 kc11 fl_X11_209 rfl ⟨rfl, rfl⟩ ?_
              refine J_cg2 (S' := w1 (gxS S ((doA d m wv A.1 q).1, A.2.1 + 1, A.2.2.1, A.2.2.2 + 1)) T) (congrArg (fun z => w1 z T) (gx_r S ((doA d m wv A.1 q).1, A.2.1 + 1, A.2.2.1, A.2.2.2) _)) ?_
              exact post ((doA d m wv A.1 q).1, A.2.1 + 1, A.2.2.1, A.2.2.2 + 1) T _ (by show A.2.1 + 1 ≤ 200; omega) hQ
            · rw [hok] at hQ
              have hQ : ∀ T', Q (.inl none) (hs (w1 (gxS S (gos (doA d m wv) l f q.2.2.2 to ((doA d m wv A.1 q).1, A.2.1 + 1, A.2.2.1 + 1, A.2.2.2))) T')) sz := hQ
              refine J_iload_n (pc := 2) dX11_goes_2 rfl ?_
              refine J_iload_n (pc := 3) dX11_goes_3 rfl ?_
              refine J_icmp_ge (pc := 4) (tgt := 156) dX11_goes_4 (by decide) (fun c4 => absurd c4 (nI_ge hlt (by omega))) (fun c4 => ?_)
              refine J_aload_n (pc := 7) dX11_goes_7 rfl ?_
              refine J_geti (pc := 8) dX11_goes_8 kc11 fl_X11_312 rfl ?_
              refine J_t1 (y := nI A.2.1) rfl ?_
              refine J_sipush (pc := 11) (v := 200) dX11_goes_11 (by decide) ?_
              refine J_icmp_ge (pc := 14) (tgt := 156) dX11_goes_14 (by decide) (fun c14 => absurd c14 (nI_ge hb (by decide))) (fun c14 => ?_)
              refine J_aload_n (pc := 17) dX11_goes_17 rfl ?_
              refine J_dup (pc := 18) dX11_goes_18 rfl ?_
              refine J_geti (pc := 19) dX11_goes_19 kc11 fl_X11_312 rfl ?_
              refine J_t1 (y := nI A.2.1) rfl ?_
              refine J_iconst (pc := 22) (v := 1) dX11_goes_22 (by decide) ?_
              refine J_iadd (pc := 23) dX11_goes_23 ?_
              refine J_t1 (y := nI (A.2.1 + 1)) (nI_1 _) ?_
              refine J_putiw (pc := 24) dX11_goes_24 kc11 fl_X11_312 rfl ⟨rfl, rfl⟩ ?_
              refine J_cg2 (S' := w1 (gxS S (A.1, A.2.1 + 1, A.2.2)) T) (congrArg (fun z => w1 z T) (gx_b S A (A.2.1 + 1))) ?_
              rw [← hA1]
              refine J_aload_n (pc := 27) dX11_goes_27 rfl ?_
              refine J_getr (pc := 28) dX11_goes_28 kc11 fl_X11_70 rfl ?_
              refine J_iload_n (pc := 31) dX11_goes_31 rfl ?_
              refine J_ar1 (pc := 32) dX11_goes_32 rfl rfl ⟨by omega, by decide⟩ ?_
              refine J_iconst (pc := 33) (v := 0) dX11_goes_33 (by decide) ?_
              refine J_il (pc := 34) dX11_goes_34 (lay_step (by omega)) (rfl : (0 : Int32) = nI 0) ⟨by first | decide | omega, by decide⟩ ?_
              refine J_t1 (y := nI q.1) ((congrFun (gx_o (A := A1) (show 455 + fr ≠ 535 by omega)) 0).trans hq.1) ?_
              refine J_bipush (pc := 35) (v := 6) dX11_goes_35 (by decide) ?_
              refine J_icmp_ne (pc := 37) (tgt := 90) dX11_goes_37 (by decide) (fun c37 => ?_) (fun c37 => absurd c37 (fun z => h6 ((nI_eq (by have := s3.1.1; omega) (by decide)).mp (z.trans (show (6 : Int32) = nI 6 from rfl)))))
              refine J_aload_n (pc := 90) dX11_goes_90 rfl ?_
              refine J_aload_n (pc := 91) dX11_goes_91 rfl ?_
              refine J_getr (pc := 92) dX11_goes_92 kc11 fl_X11_73 rfl ?_
              refine J_aload_n (pc := 95) dX11_goes_95 rfl ?_
              refine J_getr (pc := 96) dX11_goes_96 kc11 fl_X11_70 rfl ?_
              refine J_iload_n (pc := 99) dX11_goes_99 rfl ?_
              refine J_ar1 (pc := 100) dX11_goes_100 rfl rfl ⟨by omega, by decide⟩ ?_
              refine J_cvw (pc := 101) (N := mX11_does) dX11_goes_101 ml_X11_318 cf_X11_does cv_X11_does (r_X11_does (S := gxS S A1) (d := d) (m := m) (wv := wv) (i := fr) (q := q) (HG_AA (show HG (sF (sF (sF S 59 40 (nI A1.2.1)) 59 41 (nI A1.2.2.1)) 59 37 (nI A1.2.2.2)) d from hG) hV (by decide) A1.1) hV hW (LawM_AA (show LawM (sF (sF (sF S 59 40 (nI A1.2.1)) 59 41 (nI A1.2.2.1)) 59 37 (nI A1.2.2.2)) m wv from hM) hW (by decide) A1.1) (by omega) (STQ_gx hq (by omega)) s3.1 h6) rfl rfl (Nat.le_of_ble_eq_true rfl) (by omega) (rv_of (ci := 11) rfl rfl rfl) ?_
              intro T
              rw [show sa (gxS S A1) 535 = A.1 by rw [hA1]; exact sAA_s _ _ _, hok]
              refine J_t1 (y := 1) rfl ?_
              refine J_cg2 (S' := w1 (gxS S ((doA d m wv A.1 q).1, A.2.1 + 1, A.2.2.1, A.2.2.2)) T) (congrArg (fun z => w1 z T) (by rw [hA1]; exact sAA_sAA _ _ _ _)) ?_
              refine J_istore (pc := 104) dX11_goes_104 (by decide) rfl ?_
              refine J_aload_n (pc := 106) dX11_goes_106 rfl ?_
              refine J_dup (pc := 107) dX11_goes_107 rfl ?_
              refine J_geti (pc := 108) dX11_goes_108 kc11 fl_X11_322 rfl ?_
              refine J_t1 (y := nI A.2.2.1) rfl ?_
              refine J_iload (pc := 111) dX11_goes_111 rfl ?_
              refine J_if_eq (pc := 113) (tgt := 120) dX11_goes_113 (by decide) (fun c113 => absurd c113 (by decide)) (fun c113 => ?_)
              refine J_iconst (pc := 116) (v := 1) dX11_goes_116 (by decide) ?_
              refine J_goto (pc := 117) (tgt := 121) dX11_goes_117 (by decide) ?_
              refine J_iadd (pc := 121) dX11_goes_121 ?_
              refine J_t1 (y := nI (A.2.2.1 + 1)) (nI_1 _) ?_
              refine J_putiw (pc := 122) dX11_goes_122 kc11 fl_X11_322 rfl ⟨rfl, rfl⟩ ?_
              refine J_cg2 (S' := w1 (gxS S ((doA d m wv A.1 q).1, A.2.1 + 1, A.2.2.1 + 1, A.2.2.2)) T) (congrArg (fun z => w1 z T) (gx_d S ((doA d m wv A.1 q).1, A.2.1 + 1, A.2.2.1, A.2.2.2) _)) ?_
              refine J_aload_n (pc := 125) dX11_goes_125 rfl ?_
              refine J_dup (pc := 126) dX11_goes_126 rfl ?_
              refine J_geti (pc := 127) dX11_goes_127 kc11 fl_X11_209 rfl ?_
              refine J_t1 (y := nI A.2.2.2) rfl ?_
              refine J_iload (pc := 130) dX11_goes_130 rfl ?_
              refine J_if_eq (pc := 132) (tgt := 139) dX11_goes_132 (by decide) (fun c132 => absurd c132 (by decide)) (fun c132 => ?_)
              refine J_iconst (pc := 135) (v := 0) dX11_goes_135 (by decide) ?_
              refine J_goto (pc := 136) (tgt := 140) dX11_goes_136 (by decide) ?_
              refine J_iadd (pc := 140) dX11_goes_140 ?_
              refine J_t1 (y := nI A.2.2.2) (Int32.add_zero _) ?_
              refine J_putiw (pc := 141) dX11_goes_141 kc11 fl_X11_209 rfl ⟨rfl, rfl⟩ ?_
              refine J_cg2 (S' := w1 (gxS S ((doA d m wv A.1 q).1, A.2.1 + 1, A.2.2.1 + 1, A.2.2.2)) T) (congrArg (fun z => w1 z T) (gx_r S ((doA d m wv A.1 q).1, A.2.1 + 1, A.2.2.1 + 1, A.2.2.2) _)) ?_
              exact post ((doA d m wv A.1 q).1, A.2.1 + 1, A.2.2.1 + 1, A.2.2.2) T _ (by show A.2.1 + 1 ≤ 200; omega) hQ
      · have hg : gos (doA d m wv) l (f + 1) fr to A = A := if_neg (fun z => hb z.2)
        rw [hg] at hQ
        refine J_iload_n (pc := 2) dX11_goes_2 rfl ?_
        refine J_iload_n (pc := 3) dX11_goes_3 rfl ?_
        refine J_icmp_ge (pc := 4) (tgt := 156) dX11_goes_4 (by decide) (fun c4 => absurd c4 (nI_ge hlt (by omega))) (fun c4 => ?_)
        refine J_aload_n (pc := 7) dX11_goes_7 rfl ?_
        refine J_geti (pc := 8) dX11_goes_8 kc11 fl_X11_312 rfl ?_
        refine J_t1 (y := nI A.2.1) rfl ?_
        refine J_sipush (pc := 11) (v := 200) dX11_goes_11 (by decide) ?_
        refine J_icmp_ge (pc := 14) (tgt := 156) dX11_goes_14 (by decide) (fun c14 => ?_) (fun c14 => absurd ((nI_leI (a := 200) (by decide) (by omega)).mpr (by omega)) c14)
        exact J_ret (pc := 156) rfl rfl dX11_goes_156 (hQ T)
    · have hg : gos (doA d m wv) l (f + 1) fr to A = A := if_neg (fun z => hlt z.1)
      rw [hg] at hQ
      have hfr : to ≤ fr := by omega
      refine J_iload_n (pc := 2) dX11_goes_2 rfl ?_
      refine J_iload_n (pc := 3) dX11_goes_3 rfl ?_
      refine J_icmp_ge (pc := 4) (tgt := 156) dX11_goes_4 (by decide) (fun c4 => ?_) (fun c4 => absurd (nI_le hfr (by omega)) c4)
      exact J_ret (pc := 156) rfl rfl dX11_goes_156 (hQ T)
