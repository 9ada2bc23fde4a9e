/-! ===== a law's text ===== -/
abbrev LgS : Type := PT × List (Nat × Nat)
def rlS (S : Sx) (l : List (Nat × Nat)) : Sx := (up2 (sf S) 59 22 (nI l.length), sp S, fun b i => if 270 ≤ b ∧ b < 270 + l.length ∧ i < 2 then (if i = 0 then nI (l.getD (b - 270) (0, 0)).1 else nI (l.getD (b - 270) (0, 0)).2) else sa S b i, sl S, sx S)
def lS (S : Sx) (s : LgS) : Sx := ps (rlS S s.2) s.1
theorem getD_l {α : Type} {l : List α} {x d : α} {j : Nat} (h : j < l.length) : (l ++ [x]).getD j d = l.getD j d := by
  simp [List.getD, List.getElem?_append_left h]
theorem getD_e {α : Type} {l : List α} {x d : α} : (l ++ [x]).getD l.length d = x := by
  simp [List.getD]
theorem rl_app (S : Sx) (l : List (Nat × Nat)) (w v : Nat) : sF (sA (sA (rlS S l) (270 + l.length) 0 (nI w)) (270 + l.length) 1 (nI v)) 59 22 (nI (l.length + 1)) = rlS S (l ++ [(w, v)]) := by
  have e1 : up2 (up2 (sf S) 59 22 (nI l.length)) 59 22 (nI (l.length + 1)) = up2 (sf S) 59 22 (nI (l ++ [(w, v)]).length) := by rw [up2_up2, List.length_append]; rfl
  have e2 : up2 (up2 (sa (rlS S l)) (270 + l.length) 0 (nI w)) (270 + l.length) 1 (nI v) = sa (rlS S (l ++ [(w, v)])) := by
    funext b i
    show (if b = 270 + l.length then (if i = 1 then nI v else (if b = 270 + l.length then (if i = 0 then nI w else sa (rlS S l) b i) else sa (rlS S l) b i)) else (if b = 270 + l.length then (if i = 0 then nI w else sa (rlS S l) b i) else sa (rlS S l) b i)) = (if 270 ≤ b ∧ b < 270 + (l ++ [(w, v)]).length ∧ i < 2 then (if i = 0 then nI ((l ++ [(w, v)]).getD (b - 270) (0, 0)).1 else nI ((l ++ [(w, v)]).getD (b - 270) (0, 0)).2) else sa S b i)
    have e0 : sa (rlS S l) b i = (if 270 ≤ b ∧ b < 270 + l.length ∧ i < 2 then (if i = 0 then nI (l.getD (b - 270) (0, 0)).1 else nI (l.getD (b - 270) (0, 0)).2) else sa S b i) := rfl
    rw [e0, show (l ++ [(w, v)]).length = l.length + 1 by simp]
    by_cases hb : b = 270 + l.length
    · subst hb
      rw [show 270 + l.length - 270 = l.length by omega, getD_e]
      by_cases h1 : i = 1
      · subst h1; simp
      · by_cases h0 : i = 0
        · subst h0; simp
        · simp [h0, h1, show ¬ i < 2 by omega]
    · by_cases h2 : 270 ≤ b ∧ b < 270 + l.length ∧ i < 2
      · rw [if_neg hb, if_neg hb, if_pos h2, if_pos (show 270 ≤ b ∧ b < 270 + (l.length + 1) ∧ i < 2 by omega), getD_l (by omega)]
      · rw [if_neg hb, if_neg hb, if_neg h2, if_neg (show ¬ (270 ≤ b ∧ b < 270 + (l.length + 1) ∧ i < 2) by omega)]
  show (up2 (up2 (sf S) 59 22 (nI l.length)) 59 22 (nI (l.length + 1)), sp S, up2 (up2 (sa (rlS S l)) (270 + l.length) 0 (nI w)) (270 + l.length) 1 (nI v), sl S, sx S) = _
  rw [e1, e2]
  rfl
theorem up2_cm (f : Nat → Nat → Int32) {a j k : Nat} (h : j ≠ k) (v w : Int32) : up2 (up2 f a j v) a k w = up2 (up2 f a k w) a j v := by
  funext x y
  unfold up2
  by_cases hx : x = a
  · by_cases h1 : y = k
    · subst h1; simp [hx, Ne.symm h]
    · simp [hx, h1]
  · simp [hx]
theorem rl_F8 (S : Sx) (l : List (Nat × Nat)) (v : Int32) : sF (rlS S l) 59 8 v = rlS (sF S 59 8 v) l := by
  show (up2 (up2 (sf S) 59 22 _) 59 8 v, _, _, _, _) = (up2 (up2 (sf S) 59 8 v) 59 22 _, _, _, _, _)
  rw [up2_cm _ (by decide)]
  rfl
theorem lS_F8 (S : Sx) (s : LgS) (v : Int32) : sF (lS S s) 59 8 v = lS (sF S 59 8 v) s := (ps_sF _ _ (by decide) (by decide) (by decide)).trans (by rw [rl_F8]; rfl)
theorem lS_back {S : Sx} {s : LgS} {op : Nat} (hk : sf S 59 8 = nI op) (v : Int32) : sF (lS (sF S 59 8 v) s) 59 8 (nI op) = lS S s := by
  rw [lS_F8, sF_sF, sF_same hk]
def nt (w v : Nat) (s : LgS) : LgS := (s.1, if s.1.2.1 = 0 then s.2 ++ [(w, v)] else s.2)
def lsg (cc : Nat → Nat) (n c : Nat) (s : LgS) : LgS := (psg cc n c s.1, s.2)
def lpSum (R : Nat → Nat → LgS → Option LgS) (op : Nat) (s : LgS) : Option LgS := (R 1 op s).bind fun s1 => R 3 op s1
def lpPrd (R : Nat → Nat → LgS → Option LgS) (op : Nat) (s : LgS) : Option LgS := (R 2 op s).bind fun s1 => R 4 op s1
def lpSl (cc : Nat → Nat) (n : Nat) (R : Nat → Nat → LgS → Option LgS) (op : Nat) (s : LgS) : Option LgS :=
  if s.1.2.1 ≠ 0 then some s else
  if (ptk cc n 43 s.1).1 = true then (R 1 op ((ptk cc n 43 s.1).2, s.2)).bind fun s1 => R 3 op (nt 2 0 s1) else
  if (ptk cc n 45 (ptk cc n 43 s.1).2).1 = true then (R 1 op ((ptk cc n 45 (ptk cc n 43 s.1).2).2, s.2)).bind fun s1 => R 3 op (nt 3 0 s1) else
  some ((ptk cc n 45 (ptk cc n 43 s.1).2).2, s.2)
def lpPl (cc : Nat → Nat) (n : Nat) (R : Nat → Nat → LgS → Option LgS) (op : Nat) (s : LgS) : Option LgS :=
  if s.1.2.1 ≠ 0 then some s else
  if (ptk cc n 42 s.1).1 = true then (R 2 op ((ptk cc n 42 s.1).2, s.2)).bind fun s1 => R 4 op (nt 4 0 s1) else
  if (ptk cc n 47 (ptk cc n 42 s.1).2).1 = true then (R 2 op ((ptk cc n 47 (ptk cc n 42 s.1).2).2, s.2)).bind fun s1 => R 4 op (nt 5 0 s1) else
  if (ptk cc n 37 (ptk cc n 47 (ptk cc n 42 s.1).2).2).1 = true then (R 2 op ((ptk cc n 37 (ptk cc n 47 (ptk cc n 42 s.1).2).2).2, s.2)).bind fun s1 => R 4 op (nt 6 0 s1) else
  some ((ptk cc n 37 (ptk cc n 47 (ptk cc n 42 s.1).2).2).2, s.2)
def lpOne (cc : Nat → Nat) (n : Nat) (R : Nat → Nat → LgS → Option LgS) (op : Nat) (s : LgS) : Option LgS :=
  if s.1.2.1 ≠ 0 then some s else
  match wix cc n (pbl cc n s.1.1) wLM 7 with
  | some k => if op = 6 then some ((pbl cc n s.1.1, 3, pbl cc n s.1.1), s.2) else
      (R 0 (op + 1) (lsg cc n 91 ((pwe cc n (pbl cc n s.1.1), s.1.2), s.2))).bind fun s1 => (R 0 (op + 1) (lsg cc n 44 s1)).bind fun s2 => some (nt k 0 (lsg cc n 93 s2))
  | none => if cc (pbl cc n s.1.1) = 40 then (if op = 6 then some ((pbl cc n s.1.1, 3, pbl cc n s.1.1), s.2) else
      (R 0 (op + 1) ((pbl cc n s.1.1 + 1, s.1.2), s.2)).bind fun s1 => some (lsg cc n 41 s1)) else
    match wix cc n (pbl cc n s.1.1) wLaw 0 with
    | some k => some (nt 1 k ((pwe cc n (pbl cc n s.1.1), s.1.2), s.2))
    | none => some (nt 0 (pnum cc n 0 1000 (pbl cc n s.1.1, s.1.2)).1 ((pnum cc n 0 1000 (pbl cc n s.1.1, s.1.2)).2, s.2))
def lp (cc : Nat → Nat) (n : Nat) : Nat → Nat → Nat → LgS → Option LgS
  | 0 => fun _ _ _ => none
  | f + 1 => fun tag op s => match tag with
    | 0 => lpSum (lp cc n f) op s
    | 1 => lpPrd (lp cc n f) op s
    | 2 => lpOne cc n (lp cc n f) op s
    | 3 => lpSl cc n (lp cc n f) op s
    | _ => lpPl cc n (lp cc n f) op s
/-! how far a reading comes -/
theorem ptk_at {cc : Nat → Nat} {n c : Nat} {t : PT} (h : t.2.1 = 0) : (ptk cc n c t).2.2 = t.2 ∧ t.1 ≤ (ptk cc n c t).2.1 ∧ ((ptk cc n c t).1 = true → t.1 + 1 ≤ (ptk cc n c t).2.1) := by
  have hb := pbl_ge cc n t.1
  unfold ptk
  rw [if_neg (fun q => q h)]
  split
  · exact ⟨rfl, by show t.1 ≤ _ + 1; omega, fun _ => by show t.1 + 1 ≤ _ + 1; omega⟩
  · exact ⟨rfl, hb, fun q => by cases q⟩
theorem psg_ok {cc : Nat → Nat} {n c : Nat} {t : PT} (h : (psg cc n c t).2.1 = 0) : t.2.1 = 0 ∧ (psg cc n c t).2 = t.2 ∧ t.1 + 1 ≤ (psg cc n c t).1 := by
  have hb := pbl_ge cc n t.1
  unfold psg at h ⊢
  split at h
  · next q => exact absurd h q
  · next q =>
    rw [if_neg q]
    split at h
    · next q2 => rw [if_pos q2]; exact ⟨h, rfl, by show t.1 + 1 ≤ _ + 1; omega⟩
    · exact absurd h (by show ¬ 1 = 0; omega)
theorem pnum_ok {cc : Nat → Nat} {n lo hi : Nat} {t : PT} (hn : cc n = 999) (ht : t.1 ≤ n) (h : (pnum cc n lo hi t).2.2.1 = 0) : t.2.1 = 0 ∧ (pnum cc n lo hi t).2.2 = t.2 ∧ t.1 + 1 ≤ (pnum cc n lo hi t).2.1 ∧ lo ≤ (pnum cc n lo hi t).1 ∧ (pnum cc n lo hi t).1 < hi := by
  have hb := pbl_ge cc n t.1
  have hb2 := pbl_le cc ht
  unfold pnum at h ⊢
  split at h
  · next q => exact absurd h q
  · next q =>
    rw [if_neg q]
    split at h
    · next q2 =>
      rw [if_pos q2]
      split at h
      · next q3 =>
        rw [if_pos q3]
        have h0 : t.2.1 = 0 := by omega
        have hlt : pbl cc n t.1 < n := by
          by_cases z : pbl cc n t.1 = n
          · rw [z, hn] at q2; exact absurd q2 (by decide)
          · omega
        refine ⟨h0, by show (0, t.2.2) = t.2; rw [← h0], ?_, q3.1, q3.2⟩
        show t.1 + 1 ≤ pde cc n (pbl cc n t.1)
        have e : pde cc n (pbl cc n t.1) = skp (fun k => isD (cc k)) (n - pbl cc n t.1 - 1 + 1) (pbl cc n t.1) := by unfold pde; congr 1; omega
        rw [e, skp_t (P := fun k => isD (cc k)) q2]
        have := skp_ge (fun k => isD (cc k)) (n - pbl cc n t.1 - 1) (pbl cc n t.1 + 1)
        omega
      · exact absurd h (by show ¬ 2 = 0; omega)
    · exact absurd h (by show ¬ 1 = 0; omega)
theorem wix_w {cc : Nat → Nat} {n b : Nat} : ∀ {ws : List (List Nat)} {k j : Nat}, wix cc n b ws k = some j → ∃ w, w ∈ ws ∧ pwe cc n b = b + w.length
  | [], _, _, h => by cases h
  | w :: ws, k, j, h => by
    by_cases q : wIs cc n b w = true
    · exact ⟨w, List.mem_cons_self, (of_decide_eq_true q).1⟩
    · have h : (if wIs cc n b w = true then some k else wix cc n b ws (k + 1)) = some j := h
      rw [if_neg q] at h
      obtain ⟨w', h1, h2⟩ := wix_w h
      exact ⟨w', List.mem_cons_of_mem _ h1, h2⟩
theorem wix_lt {cc : Nat → Nat} {n b : Nat} : ∀ {ws : List (List Nat)} {k j : Nat}, wix cc n b ws k = some j → k ≤ j ∧ j < k + ws.length
  | [], _, _, h => by cases h
  | w :: ws, k, j, h => by
    have h : (if wIs cc n b w = true then some k else wix cc n b ws (k + 1)) = some j := h
    by_cases q : wIs cc n b w = true
    · rw [if_pos q] at h
      cases h
      exact ⟨Nat.le_refl _, by show k < k + (ws.length + 1); omega⟩
    · rw [if_neg q] at h
      have := wix_lt h
      exact ⟨by omega, by show j < k + (ws.length + 1); omega⟩
theorem wix_3 {cc : Nat → Nat} {n b k j : Nat} {ws : List (List Nat)} (h3 : ∀ w, w ∈ ws → 3 ≤ w.length) (h : wix cc n b ws k = some j) : b + 3 ≤ pwe cc n b := by
  obtain ⟨w, h1, h2⟩ := wix_w h
  have := h3 w h1
  omega
/-- a reading of a law: within the text, and no more items than bytes -/
def LI (n : Nat) (s : LgS) : Prop := PO n s.1 ∧ (s.1.2.1 = 0 → s.2.length ≤ s.1.1)
/-- what a stretch of it does -/
def LT (n : Nat) (s r : LgS) : Prop := PO n r.1 ∧ (r.1.2.1 = 0 → s.1.2.1 = 0 ∧ s.1.1 ≤ r.1.1 ∧ r.2.length + s.1.1 ≤ s.2.length + r.1.1)
theorem LT_r {n : Nat} {s : LgS} (h : PO n s.1) : LT n s s := ⟨h, fun q => ⟨q, Nat.le_refl _, Nat.le_refl _⟩⟩
theorem LT_t {n : Nat} {s r u : LgS} (h1 : LT n s r) (h2 : LT n r u) : LT n s u := ⟨h2.1, fun q => by
  obtain ⟨a1, a2, a3⟩ := h2.2 q
  obtain ⟨b1, b2, b3⟩ := h1.2 a1
  exact ⟨b1, by omega, by omega⟩⟩
theorem LT_LI {n : Nat} {s r : LgS} (h : LT n s r) (hs : LI n s) : LI n r := ⟨h.1, fun q => by
  obtain ⟨a1, a2, a3⟩ := h.2 q
  have := hs.2 a1
  omega⟩
theorem LT_sg {S : Sx} {n : Nat} {cc : Nat → Nat} (hx : TX S n cc) {s : LgS} (h : PO n s.1) {c : Nat} (hc : c < 256) : LT n s (lsg cc n c s) := ⟨PO_sg hx h hc, fun q => by
  obtain ⟨a1, a2, a3⟩ := psg_ok q
  refine ⟨a1, by show s.1.1 ≤ (psg cc n c s.1).1; omega, by show s.2.length + s.1.1 ≤ s.2.length + (psg cc n c s.1).1; omega⟩⟩
theorem LT_tk {S : Sx} {n : Nat} {cc : Nat → Nat} (hx : TX S n cc) {s : LgS} (h : PO n s.1) (h0 : s.1.2.1 = 0) {c : Nat} (hc : c < 256) : LT n s ((ptk cc n c s.1).2, s.2) := ⟨PO_tk hx h hc, fun q => by
  obtain ⟨a1, a2, a3⟩ := ptk_at (cc := cc) (n := n) (c := c) h0
  refine ⟨h0, a2, by show s.2.length + s.1.1 ≤ s.2.length + (ptk cc n c s.1).2.1; omega⟩⟩
/-- behind a sign that was taken there is room for one more item -/
theorem LT_nt {n : Nat} {s r u : LgS} (h1 : LT n s r) (h2 : u.1.1 + 1 ≤ s.1.1) (h4 : u.2 = s.2) (h5 : u.1.2.1 = 0) (w v : Nat) : LT n u (nt w v r) := ⟨h1.1, fun q => by
  have q : r.1.2.1 = 0 := q
  obtain ⟨b1, b2, b3⟩ := h1.2 q
  refine ⟨h5, by show u.1.1 ≤ r.1.1; omega, ?_⟩
  show (if r.1.2.1 = 0 then r.2 ++ [(w, v)] else r.2).length + u.1.1 ≤ u.2.length + r.1.1
  rw [if_pos q, List.length_append, h4]
  show r.2.length + 1 + u.1.1 ≤ _
  omega⟩
theorem LT_lp {S : Sx} {n : Nat} {cc : Nat → Nat} (hx : TX S n cc) : ∀ (f tag op : Nat) (s r : LgS), PO n s.1 → lp cc n f tag op s = some r → LT n s r
  | 0, _, _, _, _, _, h => by cases h
  | f + 1, 0, op, s, r, hp, h => by
    obtain ⟨s1, h1, h2⟩ := Option.bind_eq_some_iff.mp (show lpSum (lp cc n f) op s = some r from h)
    have a1 := LT_lp hx f 1 op s s1 hp h1
    exact LT_t a1 (LT_lp hx f 3 op s1 r a1.1 h2)
  | f + 1, 1, op, s, r, hp, h => by
    obtain ⟨s1, h1, h2⟩ := Option.bind_eq_some_iff.mp (show lpPrd (lp cc n f) op s = some r from h)
    have a1 := LT_lp hx f 2 op s s1 hp h1
    exact LT_t a1 (LT_lp hx f 4 op s1 r a1.1 h2)
  | f + 1, 2, op, s, r, hp, h => by
    have h : lpOne cc n (lp cc n f) op s = some r := h
    unfold lpOne at h
    have hn9 := hx.2.2.2 n (Nat.le_refl _)
    have hbg := pbl_ge cc n s.1.1
    have hbl := pbl_le cc hp.1
    split at h
    · cases h; exact LT_r hp
    · next q =>
      have q0 : s.1.2.1 = 0 := by omega
      split at h
      · next k hk =>
        have h3 := wix_3 (by decide) hk
        split at h
        · cases h; exact ⟨⟨hbl, by show 3 ≤ 3; omega, hbl⟩, fun z => absurd z (by show ¬ 3 = 0; omega)⟩
        · obtain ⟨s1, h1, h2⟩ := Option.bind_eq_some_iff.mp h
          obtain ⟨s2, h4, h5⟩ := Option.bind_eq_some_iff.mp h2
          cases h5
          have p0 : PO n ((pwe cc n (pbl cc n s.1.1), s.1.2) : PT) := ⟨pwe_le cc hbl, hp.2⟩
          have a0 := LT_sg hx (s := ((pwe cc n (pbl cc n s.1.1), s.1.2), s.2)) p0 (c := 91) (by decide)
          have a1 := LT_lp hx f 0 (op + 1) _ s1 a0.1 h1
          have a2 := LT_sg hx (s := s1) a1.1 (c := 44) (by decide)
          have a3 := LT_lp hx f 0 (op + 1) _ s2 a2.1 h4
          have a4 := LT_sg hx (s := s2) a3.1 (c := 93) (by decide)
          refine LT_nt (u := s) (s := ((pwe cc n (pbl cc n s.1.1), s.1.2), s.2)) (LT_t a0 (LT_t a1 (LT_t a2 (LT_t a3 a4)))) ?_ rfl q0 _ _
          show s.1.1 + 1 ≤ pwe cc n (pbl cc n s.1.1)
          omega
      · split at h
        · next h40 =>
          split at h
          · cases h; exact ⟨⟨hbl, by show 3 ≤ 3; omega, hbl⟩, fun z => absurd z (by show ¬ 3 = 0; omega)⟩
          · obtain ⟨s1, h1, h2⟩ := Option.bind_eq_some_iff.mp h
            cases h2
            have hlt := cc_lt hx h40 (by decide)
            have p0 : PO n ((pbl cc n s.1.1 + 1, s.1.2) : PT) := ⟨hlt, hp.2⟩
            have a1 := LT_lp hx f 0 (op + 1) _ s1 p0 h1
            have a0 : LT n s ((pbl cc n s.1.1 + 1, s.1.2), s.2) := ⟨p0, fun z => ⟨q0, by show s.1.1 ≤ pbl cc n s.1.1 + 1; omega, by show s.2.length + s.1.1 ≤ s.2.length + (pbl cc n s.1.1 + 1); omega⟩⟩
            exact LT_t a0 (LT_t a1 (LT_sg hx a1.1 (by decide)))
        · split at h
          · next k hk =>
            have h3 := wix_3 (by decide) hk
            cases h
            have p0 : PO n ((pwe cc n (pbl cc n s.1.1), s.1.2) : PT) := ⟨pwe_le cc hbl, hp.2⟩
            refine LT_nt (u := s) (s := ((pwe cc n (pbl cc n s.1.1), s.1.2), s.2)) (LT_r p0) ?_ rfl q0 _ _
            show s.1.1 + 1 ≤ pwe cc n (pbl cc n s.1.1)
            omega
          · cases h
            have p0 : PO n ((pbl cc n s.1.1, s.1.2) : PT) := ⟨hbl, hp.2⟩
            have p1 := PO_num hx p0 0 1000
            refine ⟨p1, fun z => ?_⟩
            have z : (pnum cc n 0 1000 (pbl cc n s.1.1, s.1.2)).2.2.1 = 0 := z
            obtain ⟨b1, b2, b3, b4, b5⟩ := pnum_ok hn9 hbl z
            have b3 : pbl cc n s.1.1 + 1 ≤ (pnum cc n 0 1000 (pbl cc n s.1.1, s.1.2)).2.1 := b3
            refine ⟨q0, by show s.1.1 ≤ (pnum cc n 0 1000 (pbl cc n s.1.1, s.1.2)).2.1; omega, ?_⟩
            show (if (pnum cc n 0 1000 (pbl cc n s.1.1, s.1.2)).2.2.1 = 0 then s.2 ++ [_] else s.2).length + s.1.1 ≤ s.2.length + (pnum cc n 0 1000 (pbl cc n s.1.1, s.1.2)).2.1
            rw [if_pos z, List.length_append]
            show s.2.length + 1 + s.1.1 ≤ _
            omega
  | f + 1, 3, op, s, r, hp, h => by
    have h : lpSl cc n (lp cc n f) op s = some r := h
    unfold lpSl at h
    split at h
    · cases h; exact LT_r hp
    · next q =>
      have q0 : s.1.2.1 = 0 := by omega
      have a1 := LT_tk hx hp q0 (c := 43) (by decide)
      obtain ⟨b1, b2, b3⟩ := ptk_at (cc := cc) (n := n) (c := 43) q0
      have q1 : (ptk cc n 43 s.1).2.2.1 = 0 := by rw [b1]; exact q0
      have a2 := LT_tk hx (s := ((ptk cc n 43 s.1).2, s.2)) a1.1 q1 (c := 45) (by decide)
      obtain ⟨d1, d2, d3⟩ := ptk_at (cc := cc) (n := n) (c := 45) q1
      split at h
      · next k =>
        obtain ⟨s1, h1, h2⟩ := Option.bind_eq_some_iff.mp h
        have a3 := LT_lp hx f 1 op _ s1 a1.1 h1
        have a4 := LT_nt (u := s) a3 (b3 k) rfl q0 2 0
        exact LT_t a4 (LT_lp hx f 3 op _ r a4.1 h2)
      · split at h
        · next k =>
          obtain ⟨s1, h1, h2⟩ := Option.bind_eq_some_iff.mp h
          have a3 := LT_lp hx f 1 op _ s1 a2.1 h1
          have a4 := LT_nt (u := s) a3 (by have := d3 k; show s.1.1 + 1 ≤ (ptk cc n 45 (ptk cc n 43 s.1).2).2.1; omega) rfl q0 3 0
          exact LT_t a4 (LT_lp hx f 3 op _ r a4.1 h2)
        · cases h
          exact LT_t a1 a2
  | f + 1, _ + 4, op, s, r, hp, h => by
    have h : lpPl cc n (lp cc n f) op s = some r := h
    unfold lpPl at h
    split at h
    · cases h; exact LT_r hp
    · next q =>
      have q0 : s.1.2.1 = 0 := by omega
      have a1 := LT_tk hx hp q0 (c := 42) (by decide)
      obtain ⟨b1, b2, b3⟩ := ptk_at (cc := cc) (n := n) (c := 42) q0
      have q1 : (ptk cc n 42 s.1).2.2.1 = 0 := by rw [b1]; exact q0
      have a2 := LT_tk hx (s := ((ptk cc n 42 s.1).2, s.2)) a1.1 q1 (c := 47) (by decide)
      obtain ⟨d1, d2, d3⟩ := ptk_at (cc := cc) (n := n) (c := 47) q1
      have q2 : (ptk cc n 47 (ptk cc n 42 s.1).2).2.2.1 = 0 := by rw [d1]; exact q1
      have a3 := LT_tk hx (s := ((ptk cc n 47 (ptk cc n 42 s.1).2).2, s.2)) a2.1 q2 (c := 37) (by decide)
      obtain ⟨e1, e2, e3⟩ := ptk_at (cc := cc) (n := n) (c := 37) q2
      split at h
      · next k =>
        obtain ⟨s1, h1, h2⟩ := Option.bind_eq_some_iff.mp h
        have a5 := LT_lp hx f 2 op _ s1 a1.1 h1
        have a4 := LT_nt (u := s) a5 (b3 k) rfl q0 4 0
        exact LT_t a4 (LT_lp hx f 4 op _ r a4.1 h2)
      · split at h
        · next k =>
          obtain ⟨s1, h1, h2⟩ := Option.bind_eq_some_iff.mp h
          have a5 := LT_lp hx f 2 op _ s1 a2.1 h1
          have a4 := LT_nt (u := s) a5 (by have := d3 k; show s.1.1 + 1 ≤ (ptk cc n 47 (ptk cc n 42 s.1).2).2.1; omega) rfl q0 5 0
          exact LT_t a4 (LT_lp hx f 4 op _ r a4.1 h2)
        · split at h
          · next k =>
            obtain ⟨s1, h1, h2⟩ := Option.bind_eq_some_iff.mp h
            have a5 := LT_lp hx f 2 op _ s1 a3.1 h1
            have a4 := LT_nt (u := s) a5 (by have := e3 k; show s.1.1 + 1 ≤ (ptk cc n 37 (ptk cc n 47 (ptk cc n 42 s.1).2).2).2.1; omega) rfl q0 6 0
            exact LT_t a4 (LT_lp hx f 4 op _ r a4.1 h2)
          · cases h
            exact LT_t a1 (LT_t a2 a3)
