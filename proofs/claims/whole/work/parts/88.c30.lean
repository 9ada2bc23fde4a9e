/-! ===== a work's text comes to an end ===== -/
theorem rs_s {cc : Nat → Nat} {n ns nr np : Nat} : ∀ (f tag op : Nat) (s r : WS), rs cc n ns nr np f tag op s = some r → rs cc n ns nr np (f + 1) tag op s = some r := by
  intro f
  induction f with
  | zero => intro tag op s r h; cases h
  | succ f ih =>
    intro tag op s r h
    have h : rsB cc n ns nr np (rs cc n ns nr np f) tag op s = some r := h
    show rsB cc n ns nr np (rs cc n ns nr np (f + 1)) tag op s = some r
    unfold rsB at h ⊢
    by_cases t0 : tag = 0
    · rw [if_pos t0] at h ⊢
      cases hk : wix cc n (pbl cc n s.1.1) wStp 0 with
      | none => rw [hk] at h; exact h
      | some k =>
        rw [hk] at h
        have h : (if k = 6 then (if op = 6 then some (((pbl cc n s.1.1, 3, pbl cc n s.1.1), s.2) : WS) else (rs cc n ns nr np f 1 (op + 1) (ag1 cc n (pwe cc n (pbl cc n s.1.1), s.1.2) s.2)).bind fun s1 => some (ag2 cc n s.2.length (pnum cc n 0 41 (pwe cc n (pbl cc n s.1.1), s.1.2)).1 s1)) else some (sgo cc n ns nr np k (pwe cc n (pbl cc n s.1.1), s.1.2) s.2)) = some r := h
        show (if k = 6 then (if op = 6 then some (((pbl cc n s.1.1, 3, pbl cc n s.1.1), s.2) : WS) else (rs cc n ns nr np (f + 1) 1 (op + 1) (ag1 cc n (pwe cc n (pbl cc n s.1.1), s.1.2) s.2)).bind fun s1 => some (ag2 cc n s.2.length (pnum cc n 0 41 (pwe cc n (pbl cc n s.1.1), s.1.2)).1 s1)) else some (sgo cc n ns nr np k (pwe cc n (pbl cc n s.1.1), s.1.2) s.2)) = some r
        by_cases k6 : k = 6
        · rw [if_pos k6] at h ⊢
          by_cases o6 : op = 6
          · rw [if_pos o6] at h ⊢; exact h
          · rw [if_neg o6] at h ⊢
            obtain ⟨y, e1, e2⟩ := Option.bind_eq_some_iff.mp h
            rw [ih 1 (op + 1) _ y e1]
            exact e2
        · rw [if_neg k6] at h ⊢; exact h
    · rw [if_neg t0] at h ⊢
      by_cases q : s.1.2.1 = 0 ∧ ¬ stp cc n op s
      · rw [if_pos q] at h ⊢
        obtain ⟨y, e1, e2⟩ := Option.bind_eq_some_iff.mp h
        rw [ih 0 op s y e1]
        exact ih 1 op _ r e2
      · rw [if_neg q] at h ⊢; exact h
theorem rs_m {cc : Nat → Nat} {n ns nr np f f' tag op : Nat} {s r : WS} (h : rs cc n ns nr np f tag op s = some r) (hf : f ≤ f') : rs cc n ns nr np f' tag op s = some r := by
  induction hf with
  | refl => exact h
  | step _ ih => exact rs_s _ _ _ _ _ ih
theorem rs_ex {S : Sx} {cc : Nat → Nat} {n ns nr np : Nat} (hT : TX S n cc) : ∀ (k : Nat) (s : WS), PO n s.1 → n ≤ s.1.1 + k → ∀ op, (s.1.2.1 = 0 → ∃ f r, rs cc n ns nr np f 0 op s = some r) ∧ ∃ f r, rs cc n ns nr np f 1 op s = some r := by
  intro k
  induction k using Nat.strongRecOn with
  | _ k ih =>
    intro s hp hk op
    by_cases q : s.1.2.1 = 0
    · have far : ∀ (s' : WS), PO n s'.1 → (s'.1.2.1 = 0 → s.1.1 + 1 ≤ s'.1.1) → ∀ op, ∃ f r, rs cc n ns nr np f 1 op s' = some r := by
        intro s' hp' hlt op
        by_cases z : s'.1.2.1 = 0
        · have h1 := hlt z
          have h2 := hp'.1
          exact (ih (n - s'.1.1) (by omega) s' hp' (by omega) op).2
        · exact ⟨1, s', by show rsB cc n ns nr np (rs cc n ns nr np 0) 1 op s' = _; unfold rsB; rw [if_neg (by decide), if_neg (fun w => z w.1)]⟩
      have t0 : ∃ f r, rs cc n ns nr np f 0 op s = some r := by
        cases hw : wix cc n (pbl cc n s.1.1) wStp 0 with
        | none => exact ⟨1, _, by show rsB cc n ns nr np (rs cc n ns nr np 0) 0 op s = _; unfold rsB; rw [if_pos rfl, hw]⟩
        | some j =>
          by_cases j6 : j = 6
          · subst j6
            by_cases o6 : op = 6
            · exact ⟨1, _, by show rsB cc n ns nr np (rs cc n ns nr np 0) 0 op s = _; unfold rsB; rw [if_pos rfl, hw]; show (if (6 : Nat) = 6 then (if op = 6 then _ else _) else _) = _; rw [if_pos rfl, if_pos o6]⟩
            · have a1 := RST_ag1 hT hp q hw
              obtain ⟨f, r, e⟩ := far _ a1.1 (fun z => by
                have := (a1.2 z).2.2.1
                rw [show (ag1 cc n (pwe cc n (pbl cc n s.1.1), s.1.2) s.2).2.length = s.2.length + 1 from len1 _ _] at this
                omega) (op + 1)
              exact ⟨f + 1, _, by show rsB cc n ns nr np (rs cc n ns nr np f) 0 op s = _; unfold rsB; rw [if_pos rfl, hw]; show (if (6 : Nat) = 6 then (if op = 6 then _ else (rs cc n ns nr np f 1 (op + 1) _).bind _) else _) = _; rw [if_pos rfl, if_neg o6, e]; rfl⟩
          · exact ⟨1, _, by show rsB cc n ns nr np (rs cc n ns nr np 0) 0 op s = _; unfold rsB; rw [if_pos rfl, hw]; show (if j = 6 then _ else _) = _; rw [if_neg j6]⟩
      refine ⟨fun _ => t0, ?_⟩
      by_cases z : stp cc n op s
      · exact ⟨1, s, by show rsB cc n ns nr np (rs cc n ns nr np 0) 1 op s = _; unfold rsB; rw [if_neg (by decide), if_neg (fun w => w.2 z)]⟩
      · obtain ⟨f1, y, e1⟩ := t0
        have a := RST_rs hT f1 0 op s y (by decide) hp (fun _ => q) e1
        obtain ⟨f2, r, e2⟩ := far ((pbl cc n y.1.1, y.1.2), y.2) ⟨pbl_le cc a.1.1, a.1.2⟩ (fun w => by
          have w : y.1.2.1 = 0 := w
          have h1 := (a.2 w).2.2.1
          have h2 := rs0_len hT hp q e1 w
          have h3 := pbl_ge cc n y.1.1
          show s.1.1 + 1 ≤ pbl cc n y.1.1
          omega) op
        refine ⟨max f1 f2 + 1, r, ?_⟩
        show rsB cc n ns nr np (rs cc n ns nr np (max f1 f2)) 1 op s = _
        unfold rsB
        rw [if_neg (by decide), if_pos ⟨q, z⟩, rs_m e1 (Nat.le_max_left _ _)]
        exact rs_m e2 (Nat.le_max_right _ _)
    · exact ⟨fun z => absurd z q, 1, s, by show rsB cc n ns nr np (rs cc n ns nr np 0) 1 op s = _; unfold rsB; rw [if_neg (by decide), if_neg (fun w => q w.1)]⟩
/-! ===== the items of a law that was read are in order ===== -/
theorem ldep_cg {wv wv' : Nat → Nat × Nat} : ∀ (k : Nat), (∀ j, j < k → wv j = wv' j) → ldep wv k = ldep wv' k
  | 0, _ => rfl
  | k + 1, h => by
    show (if (wv k).1 < 2 then ldep wv k + 1 else ldep wv k - 1) = (if (wv' k).1 < 2 then ldep wv' k + 1 else ldep wv' k - 1)
    rw [ldep_cg k (fun j hj => h j (by omega)), h k (Nat.lt_succ_self k)]
abbrev gd (l : List (Nat × Nat)) : Nat → Nat × Nat := fun k => l.getD k (0, 0)
def iok (wv : Nat → Nat × Nat) (k : Nat) : Prop := (wv k).1 ≤ 8 ∧ ((wv k).1 = 0 → (wv k).2 < 1000) ∧ ((wv k).1 = 1 → (wv k).2 < 8) ∧ (2 ≤ (wv k).1 → 2 ≤ ldep wv k) ∧ ldep wv (k + 1) ≤ 24
def LW (l : List (Nat × Nat)) (D : Nat) : Prop := ldep (gd l) l.length = D ∧ ∀ k, k < l.length → iok (gd l) k
theorem iok_cg {wv wv' : Nat → Nat × Nat} {k : Nat} (h : ∀ j, j < k + 1 → wv j = wv' j) (hi : iok wv k) : iok wv' k := by
  unfold iok at hi ⊢
  rw [← h k (Nat.lt_succ_self k), ← ldep_cg k (fun j hj => h j (by omega)), ← ldep_cg (k + 1) h]
  exact hi
theorem LW_app {l : List (Nat × Nat)} {D D' : Nat} {q : Nat × Nat} (h : LW l D) (h8 : q.1 ≤ 8) (h0 : q.1 = 0 → q.2 < 1000) (h1 : q.1 = 1 → q.2 < 8) (h2 : 2 ≤ q.1 → 2 ≤ D) (hD : (if q.1 < 2 then D + 1 else D - 1) = D') (h24 : D' ≤ 24) : LW (l ++ [q]) D' := by
  obtain ⟨e1, e2⟩ := h
  have eg : ∀ j, j < l.length → gd l j = gd (l ++ [q]) j := fun j hj => (getD_l hj).symm
  have el : gd (l ++ [q]) l.length = q := getD_e
  have ed : ldep (gd (l ++ [q])) l.length = D := by rw [← ldep_cg l.length eg]; exact e1
  have ed2 : ldep (gd (l ++ [q])) (l.length + 1) = D' := by
    show (if (gd (l ++ [q]) l.length).1 < 2 then ldep (gd (l ++ [q])) l.length + 1 else ldep (gd (l ++ [q])) l.length - 1) = D'
    rw [el, ed]
    exact hD
  refine ⟨by rw [len1]; exact ed2, fun k hk => ?_⟩
  rw [len1] at hk
  by_cases e : k = l.length
  · subst e
    unfold iok
    rw [el, ed, ed2]
    exact ⟨h8, h0, h1, h2, h24⟩
  · exact iok_cg (fun j hj => eg j (by omega)) (e2 k (by omega))
theorem LW_nt {s : LgS} {D D' w v : Nat} (h : LW s.2 D) (hs : s.1.2.1 = 0) (h8 : w ≤ 8) (h0 : w = 0 → v < 1000) (h1 : w = 1 → v < 8) (h2 : 2 ≤ w → 2 ≤ D) (hD : (if w < 2 then D + 1 else D - 1) = D') (h24 : D' ≤ 24) : LW (nt w v s).2 D' := by
  rw [show (nt w v s).2 = s.2 ++ [(w, v)] from if_pos hs]
  exact LW_app h h8 h0 h1 h2 hD h24
theorem LW_lp {S : Sx} {cc : Nat → Nat} {n : Nat} (hT : TX S n cc) : ∀ (f tag op : Nat) (s r : LgS), tag ≤ 4 → op ≤ 6 → PO n s.1 → lp cc n f tag op s = some r → r.1.2.1 = 0 → ∀ D, LW s.2 D →
    (tag = 0 → D + 3 * (7 - op) ≤ 24 → LW r.2 (D + 1)) ∧ (tag = 1 → D + 3 * (7 - op) ≤ 25 → LW r.2 (D + 1)) ∧ (tag = 2 → D + 3 * (7 - op) ≤ 26 → LW r.2 (D + 1)) ∧ (tag = 3 → 1 ≤ D → D + 3 * (7 - op) ≤ 25 → LW r.2 D) ∧ (tag = 4 → 1 ≤ D → D + 3 * (7 - op) ≤ 26 → LW r.2 D) := by
  have hn9 := hT.2.2.2 n (Nat.le_refl _)
  intro f
  induction f with
  | zero => intro tag op s r _ _ _ h; cases h
  | succ f ih =>
    intro tag op s r ht ho hp h hr D hD
    have hs0 : s.1.2.1 = 0 := ((LT_lp hT (f + 1) tag op s r hp h).2 hr).1
    have hbl := pbl_le cc hp.1
    match tag, ht with
    | 0, _ =>
      refine ⟨fun _ hb => ?_, fun z => (by cases z), fun z => (by cases z), fun z => (by cases z), fun z => (by cases z)⟩
      obtain ⟨s1, e1, e2⟩ := Option.bind_eq_some_iff.mp (show lpSum (lp cc n f) op s = some r from h)
      have a1 := LT_lp hT f 1 op s s1 hp e1
      have z1 := ((LT_lp hT f 3 op s1 r a1.1 e2).2 hr).1
      have l1 := (ih 1 op s s1 (by decide) ho hp e1 z1 D hD).2.1 rfl (by omega)
      exact (ih 3 op s1 r (by decide) ho a1.1 e2 hr (D + 1) l1).2.2.2.1 rfl (by omega) (by omega)
    | 1, _ =>
      refine ⟨fun z => (by cases z), fun _ hb => ?_, fun z => (by cases z), fun z => (by cases z), fun z => (by cases z)⟩
      obtain ⟨s1, e1, e2⟩ := Option.bind_eq_some_iff.mp (show lpPrd (lp cc n f) op s = some r from h)
      have a1 := LT_lp hT f 2 op s s1 hp e1
      have z1 := ((LT_lp hT f 4 op s1 r a1.1 e2).2 hr).1
      have l1 := (ih 2 op s s1 (by decide) ho hp e1 z1 D hD).2.2.1 rfl (by omega)
      exact (ih 4 op s1 r (by decide) ho a1.1 e2 hr (D + 1) l1).2.2.2.2 rfl (by omega) (by omega)
    | 2, _ =>
      refine ⟨fun z => (by cases z), fun z => (by cases z), fun _ hb => ?_, fun z => (by cases z), fun z => (by cases z)⟩
      have h : lpOne cc n (lp cc n f) op s = some r := h
      unfold lpOne at h
      rw [if_neg (fun z => z hs0)] at h
      cases hk : wix cc n (pbl cc n s.1.1) wLM 7 with
      | some j =>
        rw [hk] at h
        have hj := wix_lt hk
        have hj : 7 ≤ j ∧ j < 9 := hj
        have h : (if op = 6 then some ((pbl cc n s.1.1, 3, pbl cc n s.1.1), s.2) else (lp cc n f 0 (op + 1) (lsg cc n 91 ((pwe cc n (pbl cc n s.1.1), s.1.2), s.2))).bind fun s1 => (lp cc n f 0 (op + 1) (lsg cc n 44 s1)).bind fun s2 => some (nt j 0 (lsg cc n 93 s2))) = some r := h
        by_cases o6 : op = 6
        · rw [if_pos o6] at h; cases h; exact absurd hr (Nat.succ_ne_zero 2)
        · rw [if_neg o6] at h
          obtain ⟨s1, e1, e2⟩ := Option.bind_eq_some_iff.mp h
          obtain ⟨s2, e3, e4⟩ := Option.bind_eq_some_iff.mp e2
          cases e4
          have p0 : PO n ((pwe cc n (pbl cc n s.1.1), s.1.2) : PT) := ⟨pwe_le cc hbl, hp.2⟩
          have a0 := LT_sg hT (s := ((pwe cc n (pbl cc n s.1.1), s.1.2), s.2)) p0 (c := 91) (by decide)
          have a1 := LT_lp hT f 0 (op + 1) _ s1 a0.1 e1
          have a2 := LT_sg hT (s := s1) a1.1 (c := 44) (by decide)
          have z3 : (lsg cc n 93 s2).1.2.1 = 0 := hr
          have z2 : s2.1.2.1 = 0 := (psg_ok z3).1
          have z1b : (lsg cc n 44 s1).1.2.1 = 0 := ((LT_lp hT f 0 (op + 1) _ s2 a2.1 e3).2 z2).1
          have z1 : s1.1.2.1 = 0 := (psg_ok z1b).1
          have l1 := (ih 0 (op + 1) _ s1 (by decide) (by omega) a0.1 e1 z1 D hD).1 rfl (by omega)
          have l2 := (ih 0 (op + 1) _ s2 (by decide) (by omega) a2.1 e3 z2 (D + 1) l1).1 rfl (by omega)
          exact LW_nt (s := lsg cc n 93 s2) l2 z3 (by omega) (fun z => by omega) (fun z => by omega) (fun _ => by omega) (by rw [if_neg (by omega)]; omega) (by omega)
      | none =>
        rw [hk] at h
        have h : (if cc (pbl cc n s.1.1) = 40 then (if op = 6 then some ((pbl cc n s.1.1, 3, pbl cc n s.1.1), s.2) else (lp cc n f 0 (op + 1) ((pbl cc n s.1.1 + 1, s.1.2), s.2)).bind fun s1 => some (lsg cc n 41 s1)) else match wix cc n (pbl cc n s.1.1) wLaw 0 with
          | some k => some (nt 1 k ((pwe cc n (pbl cc n s.1.1), s.1.2), s.2))
          | none => some (nt 0 (pnum cc n 0 1000 (pbl cc n s.1.1, s.1.2)).1 ((pnum cc n 0 1000 (pbl cc n s.1.1, s.1.2)).2, s.2))) = some r := h
        by_cases h40 : cc (pbl cc n s.1.1) = 40
        · rw [if_pos h40] at h
          by_cases o6 : op = 6
          · rw [if_pos o6] at h; cases h; exact absurd hr (Nat.succ_ne_zero 2)
          · rw [if_neg o6] at h
            obtain ⟨s1, e1, e2⟩ := Option.bind_eq_some_iff.mp h
            cases e2
            have hlt := cc_lt hT h40 (by decide)
            have p0 : PO n ((pbl cc n s.1.1 + 1, s.1.2) : PT) := ⟨hlt, hp.2⟩
            have z1 : s1.1.2.1 = 0 := (psg_ok (show (psg cc n 41 s1.1).2.1 = 0 from hr)).1
            exact (ih 0 (op + 1) _ s1 (by decide) (by omega) p0 e1 z1 D hD).1 rfl (by omega)
        · rw [if_neg h40] at h
          cases hj : wix cc n (pbl cc n s.1.1) wLaw 0 with
          | some j =>
            rw [hj] at h
            cases h
            have j8 : j < 8 := (wix_lt hj).2
            exact LW_nt (s := ((pwe cc n (pbl cc n s.1.1), s.1.2), s.2)) hD hs0 (by decide) (fun z => (by cases z)) (fun _ => j8) (fun z => by omega) rfl (by omega)
          | none =>
            rw [hj] at h
            cases h
            have hv := (pnum_ok hn9 hbl (show (pnum cc n 0 1000 (pbl cc n s.1.1, s.1.2)).2.2.1 = 0 from hr)).2.2.2.2
            exact LW_nt (s := ((pnum cc n 0 1000 (pbl cc n s.1.1, s.1.2)).2, s.2)) hD hr (by decide) (fun _ => hv) (fun z => (by cases z)) (fun z => by omega) rfl (by omega)
    | 3, _ =>
      refine ⟨fun z => (by cases z), fun z => (by cases z), fun z => (by cases z), fun _ h1 hb => ?_, fun z => (by cases z)⟩
      have h : lpSl cc n (lp cc n f) op s = some r := h
      rw [lpSl_eq hn9 hs0 hp.1] at h
      cases hk : sg1 (cc (pbl cc n s.1.1)) with
      | none => rw [hk] at h; cases h; exact hD
      | some j =>
        rw [hk] at h
        have hj := sg1_b hk
        obtain ⟨s1, e1, e2⟩ := Option.bind_eq_some_iff.mp (show (lp cc n f 1 op ((pbl cc n s.1.1 + 1, s.1.2), s.2)).bind (fun s1 => lp cc n f 3 op (nt (2 + j) 0 s1)) = some r from h)
        have hlt : pbl cc n s.1.1 < n := Nat.lt_of_not_le (fun z => by rw [hT.2.2.2 _ z] at hk; cases hk)
        have p0 : PO n ((pbl cc n s.1.1 + 1, s.1.2) : PT) := ⟨hlt, hp.2⟩
        have a1 := LT_lp hT f 1 op _ s1 p0 e1
        have z1 : s1.1.2.1 = 0 := ((LT_lp hT f 3 op (nt (2 + j) 0 s1) r a1.1 e2).2 hr).1
        have l1 := (ih 1 op _ s1 (by decide) ho p0 e1 z1 D hD).2.1 rfl (by omega)
        have l2 := LW_nt (D' := D) (w := 2 + j) (v := 0) l1 z1 (by omega) (fun z => by omega) (fun z => by omega) (fun _ => by omega) (by rw [if_neg (by omega)]; omega) (by omega)
        exact (ih 3 op (nt (2 + j) 0 s1) r (by decide) ho a1.1 e2 hr D l2).2.2.2.1 rfl h1 hb
    | 4, _ =>
      refine ⟨fun z => (by cases z), fun z => (by cases z), fun z => (by cases z), fun z => (by cases z), fun _ h1 hb => ?_⟩
      have h : lpPl cc n (lp cc n f) op s = some r := h
      rw [lpPl_eq hn9 hs0 hp.1] at h
      cases hk : sg2 (cc (pbl cc n s.1.1)) with
      | none => rw [hk] at h; cases h; exact hD
      | some j =>
        rw [hk] at h
        have hj := sg2_b hk
        obtain ⟨s1, e1, e2⟩ := Option.bind_eq_some_iff.mp (show (lp cc n f 2 op ((pbl cc n s.1.1 + 1, s.1.2), s.2)).bind (fun s1 => lp cc n f 4 op (nt (4 + j) 0 s1)) = some r from h)
        have hlt : pbl cc n s.1.1 < n := Nat.lt_of_not_le (fun z => by rw [hT.2.2.2 _ z] at hk; cases hk)
        have p0 : PO n ((pbl cc n s.1.1 + 1, s.1.2) : PT) := ⟨hlt, hp.2⟩
        have a1 := LT_lp hT f 2 op _ s1 p0 e1
        have z1 : s1.1.2.1 = 0 := ((LT_lp hT f 4 op (nt (4 + j) 0 s1) r a1.1 e2).2 hr).1
        have l1 := (ih 2 op _ s1 (by decide) ho p0 e1 z1 D hD).2.2.1 rfl (by omega)
        have l2 := LW_nt (D' := D) (w := 4 + j) (v := 0) l1 z1 (by omega) (fun z => by omega) (fun z => by omega) (fun _ => by omega) (by rw [if_neg (by omega)]; omega) (by omega)
        exact (ih 4 op (nt (4 + j) 0 s1) r (by decide) ho a1.1 e2 hr D l2).2.2.2.2 rfl h1 hb
/-- a law that was read without a fault -/
theorem LawW_lp {S : Sx} {cc : Nat → Nat} {n f : Nat} (hT : TX S n cc) (h150 : n ≤ 150) {r : LgS} (h : lp cc n f 0 0 ((pbl cc n 0, 0, 0), []) = some r) (hr : r.1.2.1 = 0) : LawW r.2.length (gd r.2) ∧ r.2.length ≠ 0 := by
  have p0 : PO n ((pbl cc n 0, 0, 0) : PT) := ⟨pbl_le cc (Nat.zero_le n), Nat.zero_le 3, Nat.zero_le n⟩
  have a := LT_LI (LT_lp hT f 0 0 _ r p0 h) ⟨p0, fun _ => Nat.zero_le _⟩
  have l := (LW_lp hT f 0 0 _ r (by decide) (by decide) p0 h hr 0 ⟨rfl, fun k hk => absurd hk (Nat.not_lt_zero k)⟩).1 rfl (by decide)
  refine ⟨⟨?_, l.2⟩, fun z => ?_⟩
  · have := a.2 hr
    have := a.1.1
    omega
  · have := l.1
    rw [z] at this
    exact absurd this (by show ¬ 0 = 0 + 1; decide)
