/-! ===== a law's list never grows past its text ===== -/
theorem nt_LK {n w v : Nat} {u : LgS} (hI : LI n (nt w v u)) (hk : u.2.length ≤ n) : (nt w v u).2.length ≤ n := by
  by_cases c : u.1.2.1 = 0
  · have h1 := hI.2 c
    have h2 := hI.1.1
    omega
  · show (if u.1.2.1 = 0 then u.2 ++ [(w, v)] else u.2).length ≤ n
    rw [if_neg c]
    exact hk
theorem LK_lp {S : Sx} {n : Nat} {cc : Nat → Nat} (hx : TX S n cc) : ∀ (f tag op : Nat) (s r : LgS), LI n s → s.2.length ≤ n → lp cc n f tag op s = some r → r.2.length ≤ n
  | 0, _, _, _, _, _, _, h => by cases h
  | f + 1, 0, op, s, r, hs, hk, h => by
    obtain ⟨s1, h1, h2⟩ := Option.bind_eq_some_iff.mp (show lpSum (lp cc n f) op s = some r from h)
    exact LK_lp hx f 3 op s1 r (LT_LI (LT_lp hx f 1 op s s1 hs.1 h1) hs) (LK_lp hx f 1 op s s1 hs hk h1) h2
  | f + 1, 1, op, s, r, hs, hk, h => by
    obtain ⟨s1, h1, h2⟩ := Option.bind_eq_some_iff.mp (show lpPrd (lp cc n f) op s = some r from h)
    exact LK_lp hx f 4 op s1 r (LT_LI (LT_lp hx f 2 op s s1 hs.1 h1) hs) (LK_lp hx f 2 op s s1 hs hk h1) h2
  | f + 1, 2, op, s, r, hs, hk, h => by
    have hr := LT_LI (LT_lp hx (f + 1) 2 op s r hs.1 h) hs
    by_cases hz : r.1.2.1 = 0
    · have h1 := hr.2 hz
      have h2 := hr.1.1
      omega
    have h : lpOne cc n (lp cc n f) op s = some r := h
    unfold lpOne at h
    have hp := hs.1
    have hbg := pbl_ge cc n s.1.1
    have hbl := pbl_le cc hp.1
    split at h
    · cases h; exact hk
    · next q =>
      have q0 : s.1.2.1 = 0 := by omega
      have hs0 := hs.2 q0
      split at h
      · next k hk7 =>
        have h3 := wix_3 (by decide) hk7
        split at h
        · cases h; exact hk
        · obtain ⟨s1, h1, h2⟩ := Option.bind_eq_some_iff.mp h
          obtain ⟨s2, h4, h5⟩ := Option.bind_eq_some_iff.mp h2
          cases h5
          have i0 : LI n ((pwe cc n (pbl cc n s.1.1), s.1.2), s.2) := ⟨⟨pwe_le cc hbl, hp.2⟩, fun _ => by show s.2.length ≤ pwe cc n (pbl cc n s.1.1); omega⟩
          have i1 := LT_LI (LT_sg hx i0.1 (c := 91) (by decide)) i0
          have k1 := LK_lp hx f 0 (op + 1) _ s1 i1 hk h1
          have i2 := LT_LI (LT_lp hx f 0 (op + 1) _ s1 i1.1 h1) i1
          have i3 := LT_LI (LT_sg hx i2.1 (c := 44) (by decide)) i2
          have k2 := LK_lp hx f 0 (op + 1) _ s2 i3 k1 h4
          exact nt_LK (u := lsg cc n 93 s2) hr k2
      · split at h
        · next h40 =>
          split at h
          · cases h; exact hk
          · obtain ⟨s1, h1, h2⟩ := Option.bind_eq_some_iff.mp h
            cases h2
            have hlt := cc_lt hx h40 (by decide)
            have i0 : LI n ((pbl cc n s.1.1 + 1, s.1.2), s.2) := ⟨⟨hlt, hp.2⟩, fun _ => by show s.2.length ≤ pbl cc n s.1.1 + 1; omega⟩
            exact LK_lp hx f 0 (op + 1) _ s1 i0 hk h1
        · split at h
          · cases h
            exact nt_LK (u := ((pwe cc n (pbl cc n s.1.1), s.1.2), s.2)) hr hk
          · cases h
            exact nt_LK (u := ((pnum cc n 0 1000 (pbl cc n s.1.1, s.1.2)).2, s.2)) hr hk
  | f + 1, 3, op, s, r, hs, hk, h => by
    have h : lpSl cc n (lp cc n f) op s = some r := h
    unfold lpSl at h
    have hp := hs.1
    split at h
    · cases h; exact hk
    · next q =>
      have q0 : s.1.2.1 = 0 := by omega
      have a1 := LT_tk hx hp q0 (c := 43) (by decide)
      obtain ⟨b1, b2, b3⟩ := ptk_at (cc := cc) (n := n) (c := 43) q0
      have q1 : (ptk cc n 43 s.1).2.2.1 = 0 := by rw [b1]; exact q0
      have a2 := LT_tk hx (s := ((ptk cc n 43 s.1).2, s.2)) a1.1 q1 (c := 45) (by decide)
      obtain ⟨d1, d2, d3⟩ := ptk_at (cc := cc) (n := n) (c := 45) q1
      split at h
      · next k =>
        obtain ⟨s1, h1, h2⟩ := Option.bind_eq_some_iff.mp h
        have a3 := LT_lp hx f 1 op _ s1 a1.1 h1
        have i4 := LT_LI (LT_nt (u := s) a3 (b3 k) rfl q0 2 0) hs
        exact LK_lp hx f 3 op _ r i4 (nt_LK i4 (LK_lp hx f 1 op _ s1 (LT_LI a1 hs) hk h1)) h2
      · split at h
        · next k =>
          obtain ⟨s1, h1, h2⟩ := Option.bind_eq_some_iff.mp h
          have a3 := LT_lp hx f 1 op _ s1 a2.1 h1
          have i4 := LT_LI (LT_nt (u := s) a3 (by have := d3 k; show s.1.1 + 1 ≤ (ptk cc n 45 (ptk cc n 43 s.1).2).2.1; omega) rfl q0 3 0) hs
          exact LK_lp hx f 3 op _ r i4 (nt_LK i4 (LK_lp hx f 1 op _ s1 (LT_LI a2 (LT_LI a1 hs)) hk h1)) h2
        · cases h; exact hk
  | f + 1, t + 4, op, s, r, hs, hk, h => by
    have h : lpPl cc n (lp cc n f) op s = some r := h
    unfold lpPl at h
    have hp := hs.1
    split at h
    · cases h; exact hk
    · next q =>
      have q0 : s.1.2.1 = 0 := by omega
      have a1 := LT_tk hx hp q0 (c := 42) (by decide)
      obtain ⟨b1, b2, b3⟩ := ptk_at (cc := cc) (n := n) (c := 42) q0
      have q1 : (ptk cc n 42 s.1).2.2.1 = 0 := by rw [b1]; exact q0
      have a2 := LT_tk hx (s := ((ptk cc n 42 s.1).2, s.2)) a1.1 q1 (c := 47) (by decide)
      obtain ⟨d1, d2, d3⟩ := ptk_at (cc := cc) (n := n) (c := 47) q1
      have q2 : (ptk cc n 47 (ptk cc n 42 s.1).2).2.2.1 = 0 := by rw [d1]; exact q1
      have a3' := LT_tk hx (s := ((ptk cc n 47 (ptk cc n 42 s.1).2).2, s.2)) a2.1 q2 (c := 37) (by decide)
      obtain ⟨e1, e2, e3⟩ := ptk_at (cc := cc) (n := n) (c := 37) q2
      split at h
      · next k =>
        obtain ⟨s1, h1, h2⟩ := Option.bind_eq_some_iff.mp h
        have a3 := LT_lp hx f 2 op _ s1 a1.1 h1
        have i4 := LT_LI (LT_nt (u := s) a3 (b3 k) rfl q0 4 0) hs
        exact LK_lp hx f 4 op _ r i4 (nt_LK i4 (LK_lp hx f 2 op _ s1 (LT_LI a1 hs) hk h1)) h2
      · split at h
        · next k =>
          obtain ⟨s1, h1, h2⟩ := Option.bind_eq_some_iff.mp h
          have a3 := LT_lp hx f 2 op _ s1 a2.1 h1
          have i4 := LT_LI (LT_nt (u := s) a3 (by have := d3 k; show s.1.1 + 1 ≤ (ptk cc n 47 (ptk cc n 42 s.1).2).2.1; omega) rfl q0 5 0) hs
          exact LK_lp hx f 4 op _ r i4 (nt_LK i4 (LK_lp hx f 2 op _ s1 (LT_LI a2 (LT_LI a1 hs)) hk h1)) h2
        · split at h
          · next k =>
            obtain ⟨s1, h1, h2⟩ := Option.bind_eq_some_iff.mp h
            have a3 := LT_lp hx f 2 op _ s1 a3'.1 h1
            have i4 := LT_LI (LT_nt (u := s) a3 (by have := e3 k; show s.1.1 + 1 ≤ (ptk cc n 37 (ptk cc n 47 (ptk cc n 42 s.1).2).2).2.1; omega) rfl q0 6 0) hs
            exact LK_lp hx f 4 op _ r i4 (nt_LK i4 (LK_lp hx f 2 op _ s1 (LT_LI a3' (LT_LI a2 (LT_LI a1 hs))) hk h1)) h2
          · cases h; exact hk
theorem LK_0 {S : Sx} {n f : Nat} {cc : Nat → Nat} (hx : TX S n cc) {r : LgS} (h : lp cc n f 0 0 ((pbl cc n 0, 0, 0), []) = some r) : r.2.length ≤ n := LK_lp hx f 0 0 _ r ⟨PO_0 cc n, fun _ => Nat.zero_le _⟩ (Nat.zero_le _) h
