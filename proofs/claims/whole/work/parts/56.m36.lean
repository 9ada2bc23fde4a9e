/-! ===== the model reads the steps of a work ===== -/
abbrev Q4 : Type := Nat × Nat × Nat × Nat
abbrev WS : Type := PT × List Q4
def sta (cc : Nat → Nat) (n ns nr k : Nat) (t : PT) : Nat × PT := if k = 5 then (0, t) else pnum cc n 0 (if k = 2 ∨ k = 4 then ns else nr) t
def stb (cc : Nat → Nat) (n np k : Nat) (t : PT) : Nat × PT := if k = 3 then pnum cc n 0 np t else (0, t)
def sgo (cc : Nat → Nat) (n ns nr np k : Nat) (t : PT) (l : List Q4) : WS := (psg cc n 59 (stb cc n np k (sta cc n ns nr k t).2).2, l ++ [(k, (sta cc n ns nr k t).1, (stb cc n np k (sta cc n ns nr k t).2).1, l.length + 1)])
def ag0 (cc : Nat → Nat) (n : Nat) (t : PT) : PT := psg cc n 91 (pnum cc n 0 41 t).2
def ag1 (cc : Nat → Nat) (n : Nat) (t : PT) (l : List Q4) : WS := ((pbl cc n (ag0 cc n t).1, (ag0 cc n t).2), l ++ [(6, (pnum cc n 0 41 t).1, 0, 0)])
def ag2 (cc : Nat → Nat) (n i a : Nat) (s : WS) : WS := (psg cc n 59 (psg cc n 93 s.1), s.2.set i (6, a, 0, s.2.length))
/-- the end of a row of steps -/
def stpB (cc : Nat → Nat) (n : Nat) : Nat → WS → Bool
  | 0, s => decide (n ≤ s.1.1)
  | _ + 1, s => decide (cc s.1.1 = 93)
abbrev stp (cc : Nat → Nat) (n op : Nat) (s : WS) : Prop := stpB cc n op s = true
def rsB (cc : Nat → Nat) (n ns nr np : Nat) (R : Nat → Nat → WS → Option WS) (tag op : Nat) (s : WS) : Option WS :=
  if tag = 0 then (match wix cc n (pbl cc n s.1.1) wStp 0 with
    | none => some ((pbl cc n s.1.1, 1, pbl cc n s.1.1), s.2)
    | some k => if k = 6 then (if op = 6 then some ((pbl cc n s.1.1, 3, pbl cc n s.1.1), s.2) else (R 1 (op + 1) (ag1 cc n (pwe cc n (pbl cc n s.1.1), s.1.2) s.2)).bind fun s1 => some (ag2 cc n s.2.length (pnum cc n 0 41 (pwe cc n (pbl cc n s.1.1), s.1.2)).1 s1)) else some (sgo cc n ns nr np k (pwe cc n (pbl cc n s.1.1), s.1.2) s.2))
  else (if s.1.2.1 = 0 ∧ ¬ stp cc n op s then (R 0 op s).bind fun s1 => R 1 op ((pbl cc n s1.1.1, s1.1.2), s1.2) else some s)
def rs (cc : Nat → Nat) (n ns nr np : Nat) : Nat → Nat → Nat → WS → Option WS
  | 0, _, _, _ => none
  | f + 1, tag, op, s => rsB cc n ns nr np (rs cc n ns nr np f) tag op s
/-- one step: what it comes to -/
theorem rs0_cs {cc : Nat → Nat} {n ns nr np f op : Nat} {s r : WS} (h : rs cc n ns nr np (f + 1) 0 op s = some r) :
    (wix cc n (pbl cc n s.1.1) wStp 0 = none ∧ r = ((pbl cc n s.1.1, 1, pbl cc n s.1.1), s.2)) ∨
    (wix cc n (pbl cc n s.1.1) wStp 0 = some 6 ∧ op = 6 ∧ r = ((pbl cc n s.1.1, 3, pbl cc n s.1.1), s.2)) ∨
    (wix cc n (pbl cc n s.1.1) wStp 0 = some 6 ∧ op ≠ 6 ∧ ∃ s1, rs cc n ns nr np f 1 (op + 1) (ag1 cc n (pwe cc n (pbl cc n s.1.1), s.1.2) s.2) = some s1 ∧ r = ag2 cc n s.2.length (pnum cc n 0 41 (pwe cc n (pbl cc n s.1.1), s.1.2)).1 s1) ∨
    (∃ k, k < 6 ∧ wix cc n (pbl cc n s.1.1) wStp 0 = some k ∧ r = sgo cc n ns nr np k (pwe cc n (pbl cc n s.1.1), s.1.2) s.2) := by
  have h : rsB cc n ns nr np (rs cc n ns nr np f) 0 op s = some r := h
  unfold rsB at h
  rw [if_pos rfl] at h
  cases e : wix cc n (pbl cc n s.1.1) wStp 0 with
  | none =>
    rw [e] at h
    cases h
    exact Or.inl ⟨rfl, rfl⟩
  | some k =>
    rw [e] at h
    have hk := wix_lt e
    by_cases h6 : k = 6
    · subst h6
      have h : (if (6 : Nat) = 6 then (if op = 6 then some (((pbl cc n s.1.1, 3, pbl cc n s.1.1), s.2) : WS) else (rs cc n ns nr np f 1 (op + 1) (ag1 cc n (pwe cc n (pbl cc n s.1.1), s.1.2) s.2)).bind fun s1 => some (ag2 cc n s.2.length (pnum cc n 0 41 (pwe cc n (pbl cc n s.1.1), s.1.2)).1 s1)) else some (sgo cc n ns nr np 6 (pwe cc n (pbl cc n s.1.1), s.1.2) s.2)) = some r := h
      rw [if_pos rfl] at h
      by_cases ho : op = 6
      · rw [if_pos ho] at h
        cases h
        exact Or.inr (Or.inl ⟨rfl, ho, rfl⟩)
      · rw [if_neg ho] at h
        obtain ⟨s1, h1, h2⟩ := Option.bind_eq_some_iff.mp h
        cases h2
        exact Or.inr (Or.inr (Or.inl ⟨rfl, ho, s1, h1, rfl⟩))
    · have h : (if k = 6 then (if op = 6 then some (((pbl cc n s.1.1, 3, pbl cc n s.1.1), s.2) : WS) else (rs cc n ns nr np f 1 (op + 1) (ag1 cc n (pwe cc n (pbl cc n s.1.1), s.1.2) s.2)).bind fun s1 => some (ag2 cc n s.2.length (pnum cc n 0 41 (pwe cc n (pbl cc n s.1.1), s.1.2)).1 s1)) else some (sgo cc n ns nr np k (pwe cc n (pbl cc n s.1.1), s.1.2) s.2)) = some r := h
      rw [if_neg h6] at h
      cases h
      have : wStp.length = 7 := rfl
      exact Or.inr (Or.inr (Or.inr ⟨k, by omega, rfl, rfl⟩))
theorem rs1_cs {cc : Nat → Nat} {n ns nr np f op : Nat} {s r : WS} (h : rs cc n ns nr np (f + 1) 1 op s = some r) :
    (¬ (s.1.2.1 = 0 ∧ ¬ stp cc n op s) ∧ r = s) ∨
    ((s.1.2.1 = 0 ∧ ¬ stp cc n op s) ∧ ∃ s1, rs cc n ns nr np f 0 op s = some s1 ∧ rs cc n ns nr np f 1 op ((pbl cc n s1.1.1, s1.1.2), s1.2) = some r) := by
  have h : rsB cc n ns nr np (rs cc n ns nr np f) 1 op s = some r := h
  unfold rsB at h
  rw [if_neg (by decide)] at h
  by_cases q : s.1.2.1 = 0 ∧ ¬ stp cc n op s
  · rw [if_pos q] at h
    obtain ⟨s1, h1, h2⟩ := Option.bind_eq_some_iff.mp h
    exact Or.inr ⟨q, s1, h1, h2⟩
  · rw [if_neg q] at h
    cases h
    exact Or.inl ⟨q, rfl⟩
def RSI (n : Nat) (s : WS) : Prop := PO n s.1 ∧ (s.1.2.1 = 0 → 4 * s.2.length ≤ s.1.1)
def RST (n : Nat) (s r : WS) : Prop := PO n r.1 ∧ (r.1.2.1 = 0 → s.1.2.1 = 0 ∧ s.1.1 ≤ r.1.1 ∧ 4 * r.2.length + s.1.1 ≤ 4 * s.2.length + r.1.1 ∧ s.2.length ≤ r.2.length)
theorem RST_I {n : Nat} {s r : WS} (h : RST n s r) (hs : RSI n s) : RSI n r := ⟨h.1, fun q => by
  obtain ⟨h1, h2, h3, h4⟩ := h.2 q
  have := hs.2 h1
  omega⟩
theorem RST_t {n : Nat} {s r u : WS} (h1 : RST n s r) (h2 : RST n r u) : RST n s u := ⟨h2.1, fun q => by
  obtain ⟨a1, a2, a3, a4⟩ := h2.2 q
  obtain ⟨b1, b2, b3, b4⟩ := h1.2 a1
  exact ⟨b1, by omega, by omega, by omega⟩⟩
theorem RST_r {n : Nat} {s : WS} (h : PO n s.1) : RST n s s := ⟨h, fun q => ⟨q, Nat.le_refl _, Nat.le_refl _, Nat.le_refl _⟩⟩
theorem PO_sta {S : Sx} {n : Nat} {cc : Nat → Nat} (hx : TX S n cc) {t : PT} (h : PO n t) (ns nr k : Nat) : PO n (sta cc n ns nr k t).2 := by
  unfold sta
  split
  · exact h
  · exact PO_num hx h _ _
theorem PO_stb {S : Sx} {n : Nat} {cc : Nat → Nat} (hx : TX S n cc) {t : PT} (h : PO n t) (np k : Nat) : PO n (stb cc n np k t).2 := by
  unfold stb
  split
  · exact PO_num hx h _ _
  · exact h
theorem sta_ok {cc : Nat → Nat} {n ns nr k : Nat} {t : PT} (hn : cc n = 999) (ht : t.1 ≤ n) (h : (sta cc n ns nr k t).2.2.1 = 0) : t.2.1 = 0 ∧ t.1 ≤ (sta cc n ns nr k t).2.1 ∧ (k ≠ 5 → (sta cc n ns nr k t).1 < (if k = 2 ∨ k = 4 then ns else nr)) := by
  unfold sta at h ⊢
  by_cases e : k = 5
  · rw [if_pos e] at h ⊢
    exact ⟨h, Nat.le_refl _, fun z => absurd e z⟩
  · rw [if_neg e] at h ⊢
    obtain ⟨h1, h2, h3, h4, h5⟩ := pnum_ok hn ht h
    exact ⟨h1, by omega, fun _ => h5⟩
theorem stb_ok {cc : Nat → Nat} {n np k : Nat} {t : PT} (hn : cc n = 999) (ht : t.1 ≤ n) (h : (stb cc n np k t).2.2.1 = 0) : t.2.1 = 0 ∧ t.1 ≤ (stb cc n np k t).2.1 ∧ (k = 3 → (stb cc n np k t).1 < np) := by
  unfold stb at h ⊢
  by_cases e : k = 3
  · rw [if_pos e] at h ⊢
    obtain ⟨h1, h2, h3, h4, h5⟩ := pnum_ok hn ht h
    exact ⟨h1, by omega, fun _ => h5⟩
  · rw [if_neg e] at h ⊢
    exact ⟨h, Nat.le_refl _, fun z => absurd z e⟩
theorem wStp_3 : ∀ w, w ∈ wStp → 3 ≤ w.length := by decide
/-- the words of a step begin behind b, and there is room for them -/
theorem stp_w {cc : Nat → Nat} {n b k : Nat} (hb : b ≤ n) (h : wix cc n b wStp 0 = some k) : b + 3 ≤ pwe cc n b ∧ pwe cc n b ≤ n := ⟨wix_3 wStp_3 h, pwe_le cc hb⟩
theorem RST_sgo {S : Sx} {n : Nat} {cc : Nat → Nat} (hx : TX S n cc) {ns nr np k : Nat} {s : WS} (h : PO n s.1) (h0 : s.1.2.1 = 0) (hk : wix cc n (pbl cc n s.1.1) wStp 0 = some k) : RST n s (sgo cc n ns nr np k (pwe cc n (pbl cc n s.1.1), s.1.2) s.2) := by
  have hw := stp_w (pbl_le cc h.1) hk
  have hg := pbl_ge cc n s.1.1
  have hn := hx.2.2.2 n (Nat.le_refl n)
  have p0 : PO n ((pwe cc n (pbl cc n s.1.1), s.1.2) : PT) := ⟨hw.2, h.2⟩
  have p1 := PO_sta hx p0 ns nr k
  have p2 := PO_stb hx p1 np k
  refine ⟨PO_sg hx p2 (by decide), fun q => ?_⟩
  have e1 := psg_ok (cc := cc) (n := n) (c := 59) q
  have e2 := stb_ok hn p1.1 e1.1
  have e3 := sta_ok hn p0.1 e2.1
  refine ⟨h0, ?_, ?_, ?_⟩
  · show s.1.1 ≤ (psg cc n 59 _).1
    have := e1.2.2; have := e2.2.1; have := e3.2.1
    dsimp only at *
    omega
  · show 4 * (s.2 ++ [_]).length + s.1.1 ≤ 4 * s.2.length + (psg cc n 59 _).1
    rw [len1]
    have := e1.2.2; have := e2.2.1; have := e3.2.1
    dsimp only at *
    omega
  · show s.2.length ≤ (s.2 ++ [_]).length
    rw [len1]
    omega
theorem RST_ag1 {S : Sx} {n : Nat} {cc : Nat → Nat} (hx : TX S n cc) {s : WS} (h : PO n s.1) (h0 : s.1.2.1 = 0) (hk : wix cc n (pbl cc n s.1.1) wStp 0 = some 6) : RST n s (ag1 cc n (pwe cc n (pbl cc n s.1.1), s.1.2) s.2) := by
  have hw := stp_w (pbl_le cc h.1) hk
  have hg := pbl_ge cc n s.1.1
  have hn := hx.2.2.2 n (Nat.le_refl n)
  have p0 : PO n ((pwe cc n (pbl cc n s.1.1), s.1.2) : PT) := ⟨hw.2, h.2⟩
  have p1 := PO_num hx p0 0 41
  have p2 : PO n (ag0 cc n (pwe cc n (pbl cc n s.1.1), s.1.2)) := PO_sg hx p1 (by decide)
  refine ⟨⟨pbl_le cc p2.1, p2.2⟩, fun q => ?_⟩
  have e1 := psg_ok (cc := cc) (n := n) (c := 91) q
  have e2 := pnum_ok hn p0.1 e1.1
  have hgg := pbl_ge cc n (ag0 cc n (pwe cc n (pbl cc n s.1.1), s.1.2)).1
  have h1 : (pwe cc n (pbl cc n s.1.1)) + 2 ≤ (ag0 cc n (pwe cc n (pbl cc n s.1.1), s.1.2)).1 := by
    have := e1.2.2; have := e2.2.2.1
    show _ ≤ (psg cc n 91 _).1
    dsimp only at *
    omega
  refine ⟨h0, ?_, ?_, ?_⟩
  · show s.1.1 ≤ pbl cc n _
    omega
  · show 4 * (s.2 ++ [_]).length + s.1.1 ≤ 4 * s.2.length + pbl cc n _
    rw [len1]
    omega
  · show s.2.length ≤ (s.2 ++ [_]).length
    rw [len1]
    omega
theorem RST_ag2 {S : Sx} {n : Nat} {cc : Nat → Nat} (hx : TX S n cc) {s : WS} (h : PO n s.1) (i a : Nat) : RST n s (ag2 cc n i a s) := by
  have p1 := PO_sg hx h (c := 93) (by decide)
  refine ⟨PO_sg hx p1 (by decide), fun q => ?_⟩
  have e1 := psg_ok (cc := cc) (n := n) (c := 59) q
  have e2 := psg_ok (cc := cc) (n := n) (c := 93) e1.1
  have h1 : s.1.1 + 2 ≤ (psg cc n 59 (psg cc n 93 s.1)).1 := by
    have := e1.2.2; have := e2.2.2
    omega
  refine ⟨e2.1, ?_, ?_, ?_⟩
  · show s.1.1 ≤ (psg cc n 59 (psg cc n 93 s.1)).1
    omega
  · show 4 * (s.2.set i _).length + s.1.1 ≤ 4 * s.2.length + (psg cc n 59 (psg cc n 93 s.1)).1
    rw [List.length_set]
    omega
  · show s.2.length ≤ (s.2.set i _).length
    rw [List.length_set]
    exact Nat.le_refl _
theorem RST_rs {S : Sx} {n : Nat} {cc : Nat → Nat} (hx : TX S n cc) {ns nr np : Nat} : ∀ (f tag op : Nat) (s r : WS), tag ≤ 1 → PO n s.1 → (tag = 0 → s.1.2.1 = 0) → rs cc n ns nr np f tag op s = some r → RST n s r
  | 0, _, _, _, _, _, _, _, h => by cases h
  | f + 1, tag, op, s, r, ht, hp, h0, h => by
    match tag, ht with
    | 0, _ =>
      have hb := pbl_le cc hp.1
      rcases rs0_cs h with ⟨h1, rfl⟩ | ⟨h1, h2, rfl⟩ | ⟨h1, h2, s1, h3, rfl⟩ | ⟨k, hk, h1, rfl⟩
      · exact ⟨⟨hb, by show 1 ≤ 3; omega, hb⟩, fun q => absurd q (by show ¬ 1 = 0; omega)⟩
      · exact ⟨⟨hb, by show 3 ≤ 3; omega, hb⟩, fun q => absurd q (by show ¬ 3 = 0; omega)⟩
      · have a1 := RST_ag1 hx hp (h0 rfl) h1
        have a2 := RST_rs hx f 1 (op + 1) _ s1 (by decide) a1.1 (fun q => nomatch q) h3
        exact RST_t a1 (RST_t a2 (RST_ag2 hx a2.1 _ _))
      · exact RST_sgo hx hp (h0 rfl) h1
    | 1, _ =>
      rcases rs1_cs h with ⟨_, rfl⟩ | ⟨h1, s1, h2, h3⟩
      · exact RST_r hp
      · have a1 := RST_rs hx f 0 op s s1 (by decide) hp (fun _ => h1.1) h2
        have a2 := RST_rs hx f 1 op ((pbl cc n s1.1.1, s1.1.2), s1.2) r (by decide) ⟨pbl_le cc a1.1.1, a1.1.2⟩ (fun q => nomatch q) h3
        refine ⟨a2.1, fun q => ?_⟩
        obtain ⟨b1, b2, b3, b4⟩ := a2.2 q
        obtain ⟨c1, c2, c3, c4⟩ := a1.2 b1
        have := pbl_ge cc n s1.1.1
        dsimp only at *
        exact ⟨c1, by omega, by omega, by omega⟩
/-! the model's memory of steps -/
def stF (a k : Nat) : Bool := a == 59 && (k == 8 || k == 30)
def stA (a : Nat) : Bool := 455 ≤ a && a < 535
theorem stA_80 : ∀ i, i < 80 → stA (455 + i) = true := by decide
theorem FRL_TX' {F : Nat → Nat → Bool} {A : Nat → Bool} {S Y : Sx} (h : FRL F A S Y) (hF : F 59 2 = false) (hA : A 60 = false) {n : Nat} {cc : Nat → Nat} (hx : TX S n cc) : TX Y n cc := ⟨by rw [h.1.1 59 2 hF]; exact hx.1, hx.2.1, fun k hk => by rw [h.1.2.2 60 hA]; exact hx.2.2.1 k hk, hx.2.2.2⟩
def STQ (Y : Sx) (i : Nat) (q : Q4) : Prop := sa Y (455 + i) 0 = nI q.1 ∧ (q.1 ≠ 5 → sa Y (455 + i) 1 = nI q.2.1) ∧ (q.1 = 3 → sa Y (455 + i) 2 = nI q.2.2.1) ∧ (q.2.2.2 ≠ 0 → sa Y (455 + i) 3 = nI q.2.2.2)
def STM (Y : Sx) (l : List Q4) : Prop := sf Y 59 30 = nI l.length ∧ ∀ i, i < l.length → STQ Y i (l.getD i (0, 0, 0, 0))
def TLD (B : Sx) (ns nr np : Nat) : Prop := sa B 63 0 = nI ns ∧ sa B 63 1 = nI nr ∧ sa B 63 2 = nI np ∧ ns ≤ 8 ∧ nr ≤ 10 ∧ np ≤ 8
theorem STQ_o {Y : Sx} {i j : Nat} {q : Q4} (h : STQ Y i q) (hij : i ≠ j) (k : Nat) (v : Int32) : STQ (sA Y (455 + j) k v) i q := by
  have e : ∀ x, sa (sA Y (455 + j) k v) (455 + i) x = sa Y (455 + i) x := fun x => sa_o (by omega) x
  unfold STQ
  rw [e, e, e, e]
  exact h
def RSP (g : Gp) (B : Sx) (op : Nat) (r : WS) (X : Sx) : Prop := ∃ Y', X = ps Y' r.1 ∧ FRL stF stA B Y' ∧ sf Y' 59 8 = nI op ∧ (r.1.2.1 = 0 → STM Y' r.2)
def RS0 (g : Gp) (n : Nat) (cc : Nat → Nat) (ns nr np f : Nat) : Prop := ∀ (B Y : Sx) (op : Nat) (s r : WS), TX B n cc → TLD B ns nr np → n ≤ 150 → op ≤ 6 → FRL stF stA B Y → sf Y 59 8 = nI op → RSI n s → s.1.2.1 = 0 → STM Y s.2 → rs cc n ns nr np f 0 op s = some r → RU g mX11_readsStep (15 - op) [.ref 59] (ps Y s.1) (RSP g B op r)
def RS1 (g : Gp) (n : Nat) (cc : Nat → Nat) (ns nr np f : Nat) : Prop := ∀ (B Y : Sx) (op i : Nat) (s r : WS), TX B n cc → TLD B ns nr np → n ≤ 150 → op < 6 → FRL stF stA B Y → sf Y 59 8 = nI (op + 1) → RSI n s → (s.1.2.1 = 0 → STM Y s.2) → rs cc n ns nr np f 1 (op + 1) s = some r → ∀ (sz : Nat) (Q : Po), (∀ Y', FRL stF stA B Y' → sf Y' 59 8 = nI (op + 1) → (r.1.2.1 = 0 → STM Y' r.2) → J g mX11_readsStep (15 - op) [] 199 [some (.ref 59), some (.int 6), some (.ref (455 + i))] [] (hs (ps Y' r.1)) sz 0 0 Q) → J g mX11_readsStep (15 - op) [] 168 [some (.ref 59), some (.int 6), some (.ref (455 + i))] [] (hs (ps Y s.1)) sz 0 0 Q
theorem rs_s1 {g : Gp} {n : Nat} {cc : Nat → Nat} {ns nr np f : Nat} (i0 : RS0 g n cc ns nr np f) (i1 : RS1 g n cc ns nr np f) : RS1 g n cc ns nr np (f + 1) := by
  intro B Y op i s r hx hT hn1 hop hO h8 hI hM h sz Q hq
  have hxy := FRL_TX' hO rfl rfl hx
  have hn6 := hxy.2.1
  have hle := hI.1.1
  have hbv : bv (cc s.1.1) = 93 ↔ cc s.1.1 = 93 := bv_eq (d := 93) (TX_le hx _) (by decide)
  rcases rs1_cs h with ⟨h1, rfl⟩ | ⟨h1, s1, h2, h3⟩
  · by_cases q1 : r.1.2.1 = 0
    · have q2 : cc r.1.1 = 93 := Decidable.byContradiction fun z => h1 ⟨q1, fun y => z (of_decide_eq_true y)⟩
      refine J_aload_n (pc := 168) dX11_readsStep_168 rfl ?_
      refine J_geti (pc := 169) dX11_readsStep_169 kc11 fl_X11_119 rfl ?_
      refine J_t1 (y := nI r.1.2.1) rfl ?_
      refine J_if_ne (pc := 172) (tgt := 199) dX11_readsStep_172 (by decide) (fun c172 => absurd (show nI r.1.2.1 = 0 by rw [q1]; rfl) c172) (fun c172 => ?_)
      refine J_aload_n (pc := 175) dX11_readsStep_175 rfl ?_
      refine J_aload_n (pc := 176) dX11_readsStep_176 rfl ?_
      refine J_geti (pc := 177) dX11_readsStep_177 kc11 fl_X11_112 rfl ?_
      refine J_t1 (y := nI r.1.1) rfl ?_
      refine J_cvr (pc := 180) (N := mX11_byteAt) dX11_readsStep_180 ml_X11_115 cf_X11_byteAt cv_X11_byteAt (r_X11_byteAt (S := ps Y r.1) (k := r.1.1) hxy (by omega)) rfl rfl (Nat.le_of_ble_eq_true rfl) (by omega) (rv_of (ci := 11) rfl rfl rfl) ?_
      refine J_bipush (pc := 183) (v := 93) dX11_readsStep_183 (by decide) ?_
      refine J_icmp_eq (pc := 185) (tgt := 199) dX11_readsStep_185 (by decide) (fun c185 => ?_) (fun c185 => absurd (hbv.mpr q2) c185)
      exact hq Y hO h8 hM
    · skip
      refine J_aload_n (pc := 168) dX11_readsStep_168 rfl ?_
      refine J_geti (pc := 169) dX11_readsStep_169 kc11 fl_X11_119 rfl ?_
      refine J_t1 (y := nI r.1.2.1) rfl ?_
      refine J_if_ne (pc := 172) (tgt := 199) dX11_readsStep_172 (by decide) (fun c172 => ?_) (fun c172 => absurd c172 (fun z => q1 ((nI_z hI.1.2.1).mp z)))
      exact hq Y hO h8 hM
  · have q2 : ¬ cc s.1.1 = 93 := fun z => h1.2 (decide_eq_true z)
    have a1 := RST_rs hx f 0 (op + 1) s s1 (by decide) hI.1 (fun _ => h1.1) h2
    have c0 := i0 B Y (op + 1) s s1 hx hT hn1 (by omega) hO h8 hI h1.1 (hM h1.1) h2
    have I1 := RST_I a1 hI
    refine J_aload_n (pc := 168) dX11_readsStep_168 rfl ?_
    refine J_geti (pc := 169) dX11_readsStep_169 kc11 fl_X11_119 rfl ?_
    refine J_t1 (y := nI s.1.2.1) rfl ?_
    refine J_if_ne (pc := 172) (tgt := 199) dX11_readsStep_172 (by decide) (fun c172 => absurd (show nI s.1.2.1 = 0 by rw [h1.1]; rfl) c172) (fun c172 => ?_)
    refine J_aload_n (pc := 175) dX11_readsStep_175 rfl ?_
    refine J_aload_n (pc := 176) dX11_readsStep_176 rfl ?_
    refine J_geti (pc := 177) dX11_readsStep_177 kc11 fl_X11_112 rfl ?_
    refine J_t1 (y := nI s.1.1) rfl ?_
    refine J_cvr (pc := 180) (N := mX11_byteAt) dX11_readsStep_180 ml_X11_115 cf_X11_byteAt cv_X11_byteAt (r_X11_byteAt (S := ps Y s.1) (k := s.1.1) hxy (by omega)) rfl rfl (Nat.le_of_ble_eq_true rfl) (by omega) (rv_of (ci := 11) rfl rfl rfl) ?_
    refine J_bipush (pc := 183) (v := 93) dX11_readsStep_183 (by decide) ?_
    refine J_icmp_eq (pc := 185) (tgt := 199) dX11_readsStep_185 (by decide) (fun c185 => absurd c185 (fun z => q2 (hbv.mp z))) (fun c185 => ?_)
    refine J_aload_n (pc := 188) dX11_readsStep_188 rfl ?_
    refine J_cvU (pc := 189) (N := mX11_readsStep) dX11_readsStep_189 ml_X11_260 cf_X11_readsStep cv_X11_readsStep c0 rfl rfl (Nat.le_of_ble_eq_true rfl) (by omega) (rv_of (ci := 11) rfl rfl rfl) ?_
    intro X189 hX189
    obtain ⟨Y1, hX1, hO1, h81, hM1⟩ := hX189
    refine J_cg2 hX1 ?_
    refine J_aload_n (pc := 192) dX11_readsStep_192 rfl ?_
    refine J_cvv (pc := 193) (N := mX11_blanks) dX11_readsStep_193 ml_X11_125 cf_X11_blanks cv_X11_blanks (r_X11_blanks (S := Y1) (t := s1.1) (FRL_TX' hO1 rfl rfl hx) a1.1.1) rfl rfl (Nat.le_of_ble_eq_true rfl) (by omega) (rv_of (ci := 11) rfl rfl rfl) ?_
    refine J_goto (pc := 196) (tgt := 168) dX11_readsStep_196 (by decide) ?_
    exact i1 B Y1 op i ((pbl cc n s1.1.1, s1.1.2), s1.2) r hx hT hn1 hop hO1 h81 ⟨⟨pbl_le cc a1.1.1, a1.1.2⟩, fun q => by have := I1.2 q; have := pbl_ge cc n s1.1.1; dsimp only at *; omega⟩ hM1 h3 sz Q hq
theorem rs_keep {S : Sx} {n : Nat} {cc : Nat → Nat} (hx : TX S n cc) {ns nr np : Nat} : ∀ (f tag op : Nat) (s r : WS), tag ≤ 1 → PO n s.1 → (tag = 0 → s.1.2.1 = 0) → rs cc n ns nr np f tag op s = some r → r.1.2.1 = 0 → ∀ i, i < s.2.length → r.2.getD i (0, 0, 0, 0) = s.2.getD i (0, 0, 0, 0)
  | 0, _, _, _, _, _, _, _, h => by cases h
  | f + 1, tag, op, s, r, ht, hp, h0, h => by
    intro hr i hi
    match tag, ht with
    | 0, _ =>
      rcases rs0_cs h with ⟨h1, rfl⟩ | ⟨h1, h2, rfl⟩ | ⟨h1, h2, s1, h3, rfl⟩ | ⟨k, hk, h1, rfl⟩
      · rfl
      · rfl
      · have a1 := RST_ag1 hx hp (h0 rfl) h1
        have a2 := RST_rs hx f 1 (op + 1) _ s1 (by decide) a1.1 (fun q => nomatch q) h3
        have z1 : s1.1.2.1 = 0 := (psg_ok (psg_ok hr).1).1
        have := rs_keep hx f 1 (op + 1) _ s1 (by decide) a1.1 (fun q => nomatch q) h3 z1 i (by show i < (s.2 ++ [_]).length; rw [len1]; omega)
        show (s1.2.set s.2.length _).getD i (0, 0, 0, 0) = _
        rw [List.getD_eq_getElem?_getD, List.getElem?_set_ne (by omega), ← List.getD_eq_getElem?_getD, this]
        exact getD_l hi
      · exact getD_l hi
    | 1, _ =>
      rcases rs1_cs h with ⟨_, rfl⟩ | ⟨h1, s1, h2, h3⟩
      · rfl
      · have a1 := RST_rs hx f 0 op s s1 (by decide) hp (fun _ => h1.1) h2
        have a2 := RST_rs hx f 1 op ((pbl cc n s1.1.1, s1.1.2), s1.2) r (by decide) ⟨pbl_le cc a1.1.1, a1.1.2⟩ (fun q => nomatch q) h3
        obtain ⟨b1, b2, b3, b4⟩ := a2.2 hr
        obtain ⟨c1, c2, c3, c4⟩ := a1.2 b1
        have e1 := rs_keep hx f 0 op s s1 (by decide) hp (fun _ => h1.1) h2 b1 i hi
        have e2 := rs_keep hx f 1 op ((pbl cc n s1.1.1, s1.1.2), s1.2) r (by decide) ⟨pbl_le cc a1.1.1, a1.1.2⟩ (fun q => nomatch q) h3 hr i (Nat.lt_of_lt_of_le hi c4)
        exact e2.trans e1
theorem rs_s0 {g : Gp} {n : Nat} {cc : Nat → Nat} {ns nr np f : Nat} (i1 : RS1 g n cc ns nr np f) : RS0 g n cc ns nr np (f + 1) := by
  intro B Y op s r hx hT hn1 hop hO h8 hI h0 hM h
  have hxy := FRL_TX' hO rfl rfl hx
  have hn6 := hxy.2.1
  have hle := hI.1.1
  obtain ⟨b, hb⟩ : ∃ b, b = pbl cc n s.1.1 := ⟨_, rfl⟩
  have hbl : b ≤ n := by rw [hb]; exact pbl_le cc hle
  have hbg : s.1.1 ≤ b := by rw [hb]; exact pbl_ge cc n s.1.1
  have hs0 : s.1 = (s.1.1, 0, s.1.2.2) := by rw [← h0]
  refine RU_ofQ ⟨rfl, rfl⟩ (Nat.le_of_ble_eq_true rfl) (fun sz Q hQ => ?_)
  refine J_cg2 (S' := ps Y (s.1.1, 0, s.1.2.2)) (ps_same hs0) ?_
  have hcs := rs0_cs h
  rw [← hb] at hcs
  rcases hcs with ⟨h1, hr⟩ | ⟨h1, h2, hr⟩ | ⟨h1, h2, s1, h3, hr⟩ | ⟨k, hk, h1, hr⟩
  · skip
    refine J_aload_n (pc := 0) dX11_readsStep_0 rfl ?_
    refine J_cvr (pc := 1) (N := mX11_stepHere) dX11_readsStep_1 ml_X11_254 cf_X11_stepHere cv_X11_stepHere (r_X11_stepHere (S := Y) (a := s.1.1) (b := b) (h := s.1.2.2) hxy hle hb.symm) rfl rfl (Nat.le_of_ble_eq_true rfl) (by omega) (rv_of (ci := 11) rfl rfl rfl) ?_
    rw [h1]
    refine J_t1 (y := -1) rfl ?_
    refine J_istore_n (pc := 4) dX11_readsStep_4 (by decide) rfl ?_
    refine J_iload_n (pc := 5) dX11_readsStep_5 rfl ?_
    refine J_iconst (pc := 6) (v := -1) dX11_readsStep_6 (by decide) ?_
    refine J_icmp_ne (pc := 7) (tgt := 19) dX11_readsStep_7 (by decide) (fun c7 => absurd rfl c7) (fun c7 => ?_)
    refine J_aload_n (pc := 10) dX11_readsStep_10 rfl ?_
    refine J_iconst (pc := 11) (v := 1) dX11_readsStep_11 (by decide) ?_
    refine J_aload_n (pc := 12) dX11_readsStep_12 rfl ?_
    refine J_geti (pc := 13) dX11_readsStep_13 kc11 fl_X11_112 rfl ?_
    refine J_t1 (y := nI b) rfl ?_
    refine J_cvv (pc := 16) (N := mX11_wrong) dX11_readsStep_16 ml_X11_132 cf_X11_wrong cv_X11_wrong (r_wr (S := Y) (t := (b, 0, s.1.2.2)) (k := 1) (h := b) (by show 0 ≤ 3; omega) (by decide)) rfl rfl (Nat.le_of_ble_eq_true rfl) (by omega) (rv_of (ci := 11) rfl rfl rfl) ?_
    refine J_iload_n (pc := 19) dX11_readsStep_19 rfl ?_
    refine J_bipush (pc := 20) (v := 6) dX11_readsStep_20 (by decide) ?_
    refine J_icmp_ne (pc := 22) (tgt := 33) dX11_readsStep_22 (by decide) (fun c22 => ?_) (fun c22 => absurd c22 (by decide))
    refine J_aload_n (pc := 33) dX11_readsStep_33 rfl ?_
    refine J_geti (pc := 34) dX11_readsStep_34 kc11 fl_X11_119 rfl ?_
    refine J_t1 (y := 1) rfl ?_
    refine J_if_eq (pc := 37) (tgt := 41) dX11_readsStep_37 (by decide) (fun c37 => absurd c37 (by decide)) (fun c37 => ?_)
    exact J_ret (pc := 40) rfl rfl dX11_readsStep_40 (hQ _ ⟨Y, by rw [hr]; rfl, hO, h8, fun z => absurd z (by rw [hr]; show ¬ 1 = 0; omega)⟩)
  · skip
    refine J_aload_n (pc := 0) dX11_readsStep_0 rfl ?_
    refine J_cvr (pc := 1) (N := mX11_stepHere) dX11_readsStep_1 ml_X11_254 cf_X11_stepHere cv_X11_stepHere (r_X11_stepHere (S := Y) (a := s.1.1) (b := b) (h := s.1.2.2) hxy hle hb.symm) rfl rfl (Nat.le_of_ble_eq_true rfl) (by omega) (rv_of (ci := 11) rfl rfl rfl) ?_
    rw [h1]
    refine J_t1 (y := 6) rfl ?_
    refine J_istore_n (pc := 4) dX11_readsStep_4 (by decide) rfl ?_
    refine J_iload_n (pc := 5) dX11_readsStep_5 rfl ?_
    refine J_iconst (pc := 6) (v := -1) dX11_readsStep_6 (by decide) ?_
    refine J_icmp_ne (pc := 7) (tgt := 19) dX11_readsStep_7 (by decide) (fun c7 => ?_) (fun c7 => absurd c7 (by decide))
    refine J_iload_n (pc := 19) dX11_readsStep_19 rfl ?_
    refine J_bipush (pc := 20) (v := 6) dX11_readsStep_20 (by decide) ?_
    refine J_icmp_ne (pc := 22) (tgt := 33) dX11_readsStep_22 (by decide) (fun c22 => absurd rfl c22) (fun c22 => ?_)
    refine J_aload_n (pc := 25) dX11_readsStep_25 rfl ?_
    refine J_cvr (pc := 26) (N := mX11_opensOne) dX11_readsStep_26 ml_X11_236 cf_X11_opensOne cv_X11_opensOne (r_X11_opensOne_no (S := Y) (a := b) (h := s.1.2.2) (by rw [h8, h2]; rfl)) rfl rfl (Nat.le_of_ble_eq_true rfl) (by omega) (rv_of (ci := 11) rfl rfl rfl) ?_
    refine J_if_ne (pc := 29) (tgt := 33) dX11_readsStep_29 (by decide) (fun c29 => absurd rfl c29) (fun c29 => ?_)
    exact J_ret (pc := 32) rfl rfl dX11_readsStep_32 (hQ _ ⟨Y, by rw [hr], hO, h8, fun z => absurd z (by rw [hr]; show ¬ 3 = 0; omega)⟩)
  · have hw := stp_w hbl h1
    have p0 : PO n ((pwe cc n b, s.1.2) : PT) := ⟨hw.2, hI.1.2⟩
    have p0' : PO n ((pwe cc n b, 0, s.1.2.2) : PT) := ⟨hw.2, Nat.zero_le _, hI.1.2.2⟩
    have hl4 := hI.2 h0
    obtain ⟨hM1, hM2⟩ := hM
    have a1 := RST_ag1 hx hI.1 h0 (by rw [← hb]; exact h1)
    rw [← hb] at a1
    obtain ⟨i, hi⟩ : ∃ i, i = s.2.length := ⟨_, rfl⟩
    rw [← hi] at hr hM1 hM2 hl4
    have hi8 : i < 80 := by omega
    obtain ⟨a, ha⟩ : ∃ a, a = pnum cc n 0 41 (pwe cc n b, 0, s.1.2.2) := ⟨_, rfl⟩
    have hs02 : s.1.2 = (0, s.1.2.2) := by rw [← h0]
    rw [hs02] at h3 hr a1
    rw [← ha] at hr
    have pa : PO n a.2 := by rw [ha]; exact PO_num hx p0' 0 41
    obtain ⟨u, hu⟩ : ∃ u, u = psg cc n 91 a.2 := ⟨_, rfl⟩
    have pu : PO n u := by rw [hu]; exact PO_sg hx pa (by decide)
    have e1 : ag1 cc n (pwe cc n b, 0, s.1.2.2) s.2 = ((pbl cc n u.1, u.2), s.2 ++ [(6, a.1, 0, 0)]) := by
      unfold ag1 ag0
      rw [← ha, ← hu]
    rw [e1] at h3 a1
    have I1 := RST_I a1 hI
    have hT2 := hT
    have a2 := RST_rs hx f 1 (op + 1) _ s1 (by decide) a1.1 (fun q => nomatch q) h3
    have hk2 : s1.1.2.1 = 0 → s1.2.getD i (0, 0, 0, 0) = (6, a.1, 0, 0) := fun z => by
      have := rs_keep hx f 1 (op + 1) _ s1 (by decide) a1.1 (fun q => nomatch q) h3 z i (by show i < (s.2 ++ [_]).length; rw [len1, ← hi]; omega)
      rw [this]
      show (s.2 ++ [_]).getD i (0, 0, 0, 0) = _
      rw [hi]
      exact getD_e
    refine J_aload_n (pc := 0) dX11_readsStep_0 rfl ?_
    refine J_cvr (pc := 1) (N := mX11_stepHere) dX11_readsStep_1 ml_X11_254 cf_X11_stepHere cv_X11_stepHere (r_X11_stepHere (S := Y) (a := s.1.1) (b := b) (h := s.1.2.2) hxy hle hb.symm) rfl rfl (Nat.le_of_ble_eq_true rfl) (by omega) (rv_of (ci := 11) rfl rfl rfl) ?_
    rw [h1]
    refine J_t1 (y := 6) rfl ?_
    refine J_istore_n (pc := 4) dX11_readsStep_4 (by decide) rfl ?_
    refine J_iload_n (pc := 5) dX11_readsStep_5 rfl ?_
    refine J_iconst (pc := 6) (v := -1) dX11_readsStep_6 (by decide) ?_
    refine J_icmp_ne (pc := 7) (tgt := 19) dX11_readsStep_7 (by decide) (fun c7 => ?_) (fun c7 => absurd c7 (by decide))
    refine J_iload_n (pc := 19) dX11_readsStep_19 rfl ?_
    refine J_bipush (pc := 20) (v := 6) dX11_readsStep_20 (by decide) ?_
    refine J_icmp_ne (pc := 22) (tgt := 33) dX11_readsStep_22 (by decide) (fun c22 => absurd rfl c22) (fun c22 => ?_)
    refine J_aload_n (pc := 25) dX11_readsStep_25 rfl ?_
    refine J_cvr (pc := 26) (N := mX11_opensOne) dX11_readsStep_26 ml_X11_236 cf_X11_opensOne cv_X11_opensOne (r_X11_opensOne (S := Y) (a := b) (h := s.1.2.2) (k := op) h8 (by omega)) rfl rfl (Nat.le_of_ble_eq_true rfl) (by omega) (rv_of (ci := 11) rfl rfl rfl) ?_
    refine J_if_ne (pc := 29) (tgt := 33) dX11_readsStep_29 (by decide) (fun c29 => ?_) (fun c29 => absurd c29 (by decide))
    refine J_aload_n (pc := 33) dX11_readsStep_33 rfl ?_
    refine J_geti (pc := 34) dX11_readsStep_34 kc11 fl_X11_119 rfl ?_
    refine J_t1 (y := 0) rfl ?_
    refine J_if_eq (pc := 37) (tgt := 41) dX11_readsStep_37 (by decide) (fun c37 => ?_) (fun c37 => absurd rfl c37)
    refine J_aload_n (pc := 41) dX11_readsStep_41 rfl ?_
    refine J_cvv (pc := 42) (N := mX11_skipWord) dX11_readsStep_42 ml_X11_156 cf_X11_skipWord cv_X11_skipWord (r_X11_skipWord (S := sF Y 59 8 (nI (op + 1))) (t := (b, 0, s.1.2.2)) hxy hbl) rfl rfl (Nat.le_of_ble_eq_true rfl) (by omega) (rv_of (ci := 11) rfl rfl rfl) ?_
    refine J_aload_n (pc := 45) dX11_readsStep_45 rfl ?_
    refine J_getr (pc := 46) dX11_readsStep_46 kc11 fl_X11_70 rfl ?_
    refine J_aload_n (pc := 49) dX11_readsStep_49 rfl ?_
    refine J_geti (pc := 50) dX11_readsStep_50 kc11 fl_X11_257 rfl ?_
    refine J_ar1 (pc := 53) dX11_readsStep_53 rfl hM1 ⟨by omega, by decide⟩ ?_
    refine J_astore_n (pc := 54) dX11_readsStep_54 (by decide) rfl ?_
    refine J_aload_n (pc := 55) dX11_readsStep_55 rfl ?_
    refine J_dup (pc := 56) dX11_readsStep_56 rfl ?_
    refine J_geti (pc := 57) dX11_readsStep_57 kc11 fl_X11_257 rfl ?_
    refine J_t1 (y := nI i) hM1 ?_
    refine J_iconst (pc := 60) (v := 1) dX11_readsStep_60 (by decide) ?_
    refine J_iadd (pc := 61) dX11_readsStep_61 ?_
    refine J_t1 (y := nI (i + 1)) (nI_1 i) ?_
    refine J_puti (pc := 62) dX11_readsStep_62 kc11 fl_X11_257 rfl ⟨rfl, rfl⟩ ?_
    refine J_cg2 (ps_sF _ _ (by decide) (by decide) (by decide)) ?_
    refine J_aload_n (pc := 65) dX11_readsStep_65 rfl ?_
    refine J_iconst (pc := 66) (v := 0) dX11_readsStep_66 (by decide) ?_
    refine J_iload_n (pc := 67) dX11_readsStep_67 rfl ?_
    refine J_is (pc := 68) dX11_readsStep_68 (lay_step hi8) (rfl : (0 : Int32) = nI 0) ⟨by first | decide | omega, by decide⟩ ?_
    refine J_iload_n (pc := 69) dX11_readsStep_69 rfl ?_
    refine J_iconst (pc := 70) (v := 2) dX11_readsStep_70 (by decide) ?_
    refine J_icmp_lt (pc := 71) (tgt := 79) dX11_readsStep_71 (by decide) (fun c71 => absurd c71 (by decide)) (fun c71 => ?_)
    refine J_iload_n (pc := 74) dX11_readsStep_74 rfl ?_
    refine J_iconst (pc := 75) (v := 3) dX11_readsStep_75 (by decide) ?_
    refine J_icmp_ne (pc := 76) (tgt := 95) dX11_readsStep_76 (by decide) (fun c76 => ?_) (fun c76 => absurd c76 (by decide))
    refine J_iload_n (pc := 95) dX11_readsStep_95 rfl ?_
    refine J_iconst (pc := 96) (v := 2) dX11_readsStep_96 (by decide) ?_
    refine J_icmp_eq (pc := 97) (tgt := 105) dX11_readsStep_97 (by decide) (fun c97 => absurd c97 (by decide)) (fun c97 => ?_)
    refine J_iload_n (pc := 100) dX11_readsStep_100 rfl ?_
    refine J_iconst (pc := 101) (v := 4) dX11_readsStep_101 (by decide) ?_
    refine J_icmp_ne (pc := 102) (tgt := 121) dX11_readsStep_102 (by decide) (fun c102 => ?_) (fun c102 => absurd c102 (by decide))
    refine J_iload_n (pc := 121) dX11_readsStep_121 rfl ?_
    refine J_iconst (pc := 122) (v := 3) dX11_readsStep_122 (by decide) ?_
    refine J_icmp_ne (pc := 123) (tgt := 142) dX11_readsStep_123 (by decide) (fun c123 => ?_) (fun c123 => absurd c123 (by decide))
    refine J_iload_n (pc := 142) dX11_readsStep_142 rfl ?_
    refine J_bipush (pc := 143) (v := 6) dX11_readsStep_143 (by decide) ?_
    refine J_icmp_ne (pc := 145) (tgt := 215) dX11_readsStep_145 (by decide) (fun c145 => absurd rfl c145) (fun c145 => ?_)
    refine J_aload_n (pc := 148) dX11_readsStep_148 rfl ?_
    refine J_iconst (pc := 149) (v := 1) dX11_readsStep_149 (by decide) ?_
    refine J_aload_n (pc := 150) dX11_readsStep_150 rfl ?_
    refine J_iconst (pc := 151) (v := 0) dX11_readsStep_151 (by decide) ?_
    refine J_bipush (pc := 152) (v := 40) dX11_readsStep_152 (by decide) ?_
    refine J_cvr (pc := 154) (N := mX11_number) dX11_readsStep_154 ml_X11_175 cf_X11_number cv_X11_number (r_X11_number (S := sA (sF (sF Y 59 8 (nI (op + 1))) 59 30 (nI (i + 1))) (455 + i) 0 6) (lo := 0) (hi := 41) (t := (pwe cc n b, 0, s.1.2.2)) (FRL_TX' (FRL_A (FRL_F (FRL_F hO rfl) rfl) (stA_80 i hi8)) rfl rfl hx) p0' rfl (by decide) (by decide) (by decide)) rfl rfl (Nat.le_of_ble_eq_true rfl) (by omega) (rv_of (ci := 11) rfl rfl rfl) ?_
    rw [← ha]
    refine J_is (pc := 157) dX11_readsStep_157 (lay_step hi8) (rfl : (1 : Int32) = nI 1) ⟨by first | decide | omega, by decide⟩ ?_
    refine J_aload_n (pc := 158) dX11_readsStep_158 rfl ?_
    refine J_bipush (pc := 159) (v := 91) dX11_readsStep_159 (by decide) ?_
    refine J_cvv (pc := 161) (N := mX11_sign) dX11_readsStep_161 ml_X11_179 cf_X11_sign cv_X11_sign (r_X11_sign (S := sA (sA (sF (sF Y 59 8 (nI (op + 1))) 59 30 (nI (i + 1))) (455 + i) 0 6) (455 + i) 1 (nI a.1)) (c := 91) (t := a.2) (FRL_TX' (FRL_A (FRL_A (FRL_F (FRL_F hO rfl) rfl) (stA_80 i hi8)) (stA_80 i hi8)) rfl rfl hx) pa (by decide)) rfl rfl (Nat.le_of_ble_eq_true rfl) (by omega) (rv_of (ci := 11) rfl rfl rfl) ?_
    rw [← hu]
    refine J_aload_n (pc := 164) dX11_readsStep_164 rfl ?_
    refine J_cvv (pc := 165) (N := mX11_blanks) dX11_readsStep_165 ml_X11_125 cf_X11_blanks cv_X11_blanks (r_X11_blanks (S := sA (sA (sF (sF Y 59 8 (nI (op + 1))) 59 30 (nI (i + 1))) (455 + i) 0 6) (455 + i) 1 (nI a.1)) (t := u) (FRL_TX' (FRL_A (FRL_A (FRL_F (FRL_F hO rfl) rfl) (stA_80 i hi8)) (stA_80 i hi8)) rfl rfl hx) pu.1) rfl rfl (Nat.le_of_ble_eq_true rfl) (by omega) (rv_of (ci := 11) rfl rfl rfl) ?_
    obtain ⟨Y1, hY1⟩ : ∃ Z, Z = sA (sA (sF (sF Y 59 8 (nI (op + 1))) 59 30 (nI (i + 1))) (455 + i) 0 6) (455 + i) 1 (nI a.1) := ⟨_, rfl⟩
    refine J_cg2 (S' := ps Y1 (pbl cc n u.1, u.2)) (by rw [hY1]) ?_
    have hO1 : FRL stF stA B Y1 := by rw [hY1]; exact FRL_A (FRL_A (FRL_F (FRL_F hO rfl) rfl) (stA_80 i hi8)) (stA_80 i hi8)
    have h81 : sf Y1 59 8 = nI (op + 1) := by rw [hY1]; rfl
    have hMM : STM Y1 (s.2 ++ [(6, a.1, 0, 0)]) := by
      refine ⟨by rw [hY1, len1, ← hi]; rfl, fun j hj => ?_⟩
      rw [len1, ← hi] at hj
      by_cases e : j = i
      · have : (s.2 ++ [((6, a.1, 0, 0) : Q4)]).getD j (0, 0, 0, 0) = (6, a.1, 0, 0) := by rw [e, hi]; exact getD_e
        rw [this, e, hY1]
        exact ⟨by rw [sa_n (by decide), sa_e]; rfl, fun _ => by rw [sa_e], fun z => absurd z (by show ¬ 6 = 3; decide), fun z => absurd rfl z⟩
      · have : (s.2 ++ [((6, a.1, 0, 0) : Q4)]).getD j (0, 0, 0, 0) = s.2.getD j (0, 0, 0, 0) := getD_l (by omega)
        rw [this, hY1]
        exact STQ_o (STQ_o (show STQ (sF (sF Y 59 8 (nI (op + 1))) 59 30 (nI (i + 1))) j _ from hM2 j (by omega)) e 0 6) e 1 _
    clear hY1
    refine i1 B Y1 op i ((pbl cc n u.1, u.2), s.2 ++ [(6, a.1, 0, 0)]) s1 hx hT2 hn1 (by omega) hO1 h81 I1 (fun _ => hMM) h3 sz Q (fun Y2 hO2 h82 hM3 => ?_)
    refine J_aload_n (pc := 199) dX11_readsStep_199 rfl ?_
    refine J_bipush (pc := 200) (v := 93) dX11_readsStep_200 (by decide) ?_
    refine J_cvv (pc := 202) (N := mX11_sign) dX11_readsStep_202 ml_X11_179 cf_X11_sign cv_X11_sign (r_X11_sign (S := Y2) (c := 93) (t := s1.1) (FRL_TX' hO2 rfl rfl hx) a2.1 (by decide)) rfl rfl (Nat.le_of_ble_eq_true rfl) (by omega) (rv_of (ci := 11) rfl rfl rfl) ?_
    refine J_aload_n (pc := 205) dX11_readsStep_205 rfl ?_
    refine J_dup (pc := 206) dX11_readsStep_206 rfl ?_
    refine J_geti (pc := 207) dX11_readsStep_207 kc11 fl_X11_162 rfl ?_
    refine J_t1 (y := nI (op + 1)) h82 ?_
    refine J_iconst (pc := 210) (v := 1) dX11_readsStep_210 (by decide) ?_
    refine J_isub (pc := 211) dX11_readsStep_211 ?_
    refine J_t1 (y := nI op) (nI_pred op) ?_
    refine J_puti (pc := 212) dX11_readsStep_212 kc11 fl_X11_162 rfl ⟨rfl, rfl⟩ ?_
    refine J_cg2 (ps_sF Y2 _ (by decide) (by decide) (by decide)) ?_
    refine J_aload_n (pc := 215) dX11_readsStep_215 rfl ?_
    refine J_iconst (pc := 216) (v := 3) dX11_readsStep_216 (by decide) ?_
    refine J_aload_n (pc := 217) dX11_readsStep_217 rfl ?_
    refine J_geti (pc := 218) dX11_readsStep_218 kc11 fl_X11_257 rfl ?_
    refine J_is (pc := 221) dX11_readsStep_221 (lay_step hi8) (rfl : (3 : Int32) = nI 3) ⟨by first | decide | omega, by decide⟩ ?_
    obtain ⟨Y3, hY3⟩ : ∃ Z, Z = sA (sF Y2 59 8 (nI op)) (455 + i) 3 (sf Y2 59 30) := ⟨_, rfl⟩
    refine J_cg2 (S' := ps Y3 (psg cc n 93 s1.1)) (by rw [hY3]; rfl) ?_
    have hO3 : FRL stF stA B Y3 := by rw [hY3]; exact FRL_A (FRL_F hO2 rfl) (stA_80 i hi8)
    have h83 : sf Y3 59 8 = nI op := by rw [hY3]; rfl
    refine J_aload_n (pc := 222) dX11_readsStep_222 rfl ?_
    refine J_bipush (pc := 223) (v := 59) dX11_readsStep_223 (by decide) ?_
    refine J_cvv (pc := 225) (N := mX11_sign) dX11_readsStep_225 ml_X11_179 cf_X11_sign cv_X11_sign (r_X11_sign (S := Y3) (c := 59) (t := psg cc n 93 s1.1) (FRL_TX' hO3 rfl rfl hx) (PO_sg hx a2.1 (by decide)) (by decide)) rfl rfl (Nat.le_of_ble_eq_true rfl) (by omega) (rv_of (ci := 11) rfl rfl rfl) ?_
    refine J_ret (pc := 228) rfl rfl dX11_readsStep_228 (hQ _ ⟨Y3, by rw [hr]; rfl, hO3, h83, fun z => ?_⟩)
    have z1 : s1.1.2.1 = 0 := by
      rw [hr] at z
      exact (psg_ok (psg_ok z).1).1
    obtain ⟨m1, m2⟩ := hM3 z1
    obtain ⟨y1, y2, y3, y4⟩ := a2.2 z1
    rw [show ((pbl cc n u.1, u.2), s.2 ++ [((6, a.1, 0, 0) : Q4)]).2.length = i + 1 by show (s.2 ++ [_]).length = _; rw [len1, ← hi]] at y4
    rw [hr]
    refine ⟨by rw [hY3]; show sf Y2 59 30 = nI (s1.2.set i _).length; rw [List.length_set]; exact m1, fun j hj => ?_⟩
    have hj : j < (s1.2.set i (6, a.1, 0, s1.2.length)).length := hj
    rw [List.length_set] at hj
    show STQ Y3 j ((s1.2.set i (6, a.1, 0, s1.2.length)).getD j (0, 0, 0, 0))
    by_cases e : j = i
    · rw [e] at hj ⊢
      have hq2 := m2 i hj
      have g1 : (s1.2.set i ((6, a.1, 0, s1.2.length) : Q4)).getD i (0, 0, 0, 0) = (6, a.1, 0, s1.2.length) := by rw [List.getD_eq_getElem?_getD, List.getElem?_set_self (by omega)]; rfl
      have g2 : s1.2.getD i (0, 0, 0, 0) = (6, a.1, 0, 0) := hk2 z1
      rw [g2] at hq2
      rw [g1, hY3]
      exact ⟨by rw [sa_n (by decide)]; exact hq2.1, fun z => by rw [sa_n (by decide)]; exact hq2.2.1 z, fun z => absurd z (by show ¬ 6 = 3; decide), fun _ => by rw [sa_e]; exact m1⟩
    · have g1 : (s1.2.set i ((6, a.1, 0, s1.2.length) : Q4)).getD j (0, 0, 0, 0) = s1.2.getD j (0, 0, 0, 0) := by rw [List.getD_eq_getElem?_getD, List.getElem?_set_ne (by omega), ← List.getD_eq_getElem?_getD]
      rw [g1, hY3]
      exact STQ_o (show STQ (sF Y2 59 8 (nI op)) j _ from m2 j hj) e 3 _
  · have hw := stp_w hbl h1
    have p0' : PO n ((pwe cc n b, 0, s.1.2.2) : PT) := ⟨hw.2, Nat.zero_le _, hI.1.2.2⟩
    have hl4 := hI.2 h0
    obtain ⟨hM1, hM2⟩ := hM
    obtain ⟨tt1, tt2, tt3, tn8, tr10, tp8⟩ := id hT
    have hs02 : s.1.2 = (0, s.1.2.2) := by rw [← h0]
    rw [hs02] at hr
    obtain ⟨i, hi⟩ : ∃ i, i = s.2.length := ⟨_, rfl⟩
    rw [← hi] at hM1 hM2 hl4
    have hi8 : i < 80 := by omega
    obtain ⟨t0, ht0⟩ : ∃ t, t = ((pwe cc n b, 0, s.1.2.2) : PT) := ⟨_, rfl⟩
    rw [← ht0] at hr p0'
    obtain ⟨Y0, hY0⟩ : ∃ Z, Z = sA (sF Y 59 30 (nI (i + 1))) (455 + i) 0 (nI k) := ⟨_, rfl⟩
    have hO0 : FRL stF stA B Y0 := by rw [hY0]; exact FRL_A (FRL_F hO rfl) (stA_80 i hi8)
    have h80 : sf Y0 59 8 = nI op := by rw [hY0]; exact h8
    have h30 : sf Y0 59 30 = nI (i + 1) := by rw [hY0]; rfl
    have hr0 : sa Y0 (455 + i) 0 = nI k := by rw [hY0]; exact sa_e _ _ _ _
    have hq0 : ∀ j, j < i → STQ Y0 j (s.2.getD j (0, 0, 0, 0)) := fun j hj => by rw [hY0]; exact STQ_o (show STQ (sF Y 59 30 (nI (i + 1))) j _ from hM2 j hj) (by omega) 0 _
    have hl63 : ∀ x, sa Y0 63 x = sa B 63 x := fun x => by rw [hO0.1.2.2 63 rfl]
    have hx0 := FRL_TX' hO0 rfl rfl hx
    clear hM2
    have fin : ∀ (Y1 : Sx) (a c : Nat) (t2 : PT), FRL stF stA B Y1 → sf Y1 59 8 = nI op → sf Y1 59 30 = nI (i + 1) → sa Y1 (455 + i) 0 = nI k → (k ≠ 5 → sa Y1 (455 + i) 1 = nI a) → (k = 3 → sa Y1 (455 + i) 2 = nI c) → (∀ j, j < i → STQ Y1 j (s.2.getD j (0, 0, 0, 0))) → PO n t2 → r = (psg cc n 59 t2, s.2 ++ [(k, a, c, s.2.length + 1)]) → J g mX11_readsStep (15 - op) [] 215 [some (.ref 59), some (.int (nI k)), some (.ref (455 + i))] [] (hs (ps Y1 t2)) sz 0 0 Q := by
      intro Y1 a c t2 o1 o8 o30 r0 r1 r2 rq p2 hr
      refine J_aload_n (pc := 215) dX11_readsStep_215 rfl ?_
      refine J_iconst (pc := 216) (v := 3) dX11_readsStep_216 (by decide) ?_
      refine J_aload_n (pc := 217) dX11_readsStep_217 rfl ?_
      refine J_geti (pc := 218) dX11_readsStep_218 kc11 fl_X11_257 rfl ?_
      refine J_t1 (y := nI (i + 1)) o30 ?_
      refine J_is (pc := 221) dX11_readsStep_221 (lay_step hi8) (rfl : (3 : Int32) = nI 3) ⟨by first | decide | omega, by decide⟩ ?_
      obtain ⟨Y3, hY3⟩ : ∃ Z, Z = sA Y1 (455 + i) 3 (nI (i + 1)) := ⟨_, rfl⟩
      refine J_cg2 (S' := ps Y3 t2) (by rw [hY3]; rfl) ?_
      have hO3 : FRL stF stA B Y3 := by rw [hY3]; exact FRL_A o1 (stA_80 i hi8)
      refine J_aload_n (pc := 222) dX11_readsStep_222 rfl ?_
      refine J_bipush (pc := 223) (v := 59) dX11_readsStep_223 (by decide) ?_
      refine J_cvv (pc := 225) (N := mX11_sign) dX11_readsStep_225 ml_X11_179 cf_X11_sign cv_X11_sign (r_X11_sign (S := Y3) (c := 59) (t := t2) (FRL_TX' hO3 rfl rfl hx) p2 (by decide)) rfl rfl (Nat.le_of_ble_eq_true rfl) (by omega) (rv_of (ci := 11) rfl rfl rfl) ?_
      refine J_ret (pc := 228) rfl rfl dX11_readsStep_228 (hQ _ ⟨Y3, by rw [hr], hO3, by rw [hY3]; exact o8, fun z => ?_⟩)
      rw [hr]
      refine ⟨by rw [hY3]; show sf Y1 59 30 = nI (s.2 ++ [_]).length; rw [len1, ← hi]; exact o30, fun j hj => ?_⟩
      have hj : j < (s.2 ++ [((k, a, c, s.2.length + 1) : Q4)]).length := hj
      rw [len1, ← hi] at hj
      show STQ Y3 j ((s.2 ++ [((k, a, c, s.2.length + 1) : Q4)]).getD j (0, 0, 0, 0))
      by_cases e : j = i
      · have : (s.2 ++ [((k, a, c, s.2.length + 1) : Q4)]).getD j (0, 0, 0, 0) = (k, a, c, s.2.length + 1) := by rw [e, hi]; exact getD_e
        rw [this, e, hY3, ← hi]
        exact ⟨by rw [sa_n (by decide)]; exact r0, fun z => by rw [sa_n (by decide)]; exact r1 z, fun z => by rw [sa_n (by decide)]; exact r2 z, fun _ => by rw [sa_e]⟩
      · have : (s.2 ++ [((k, a, c, s.2.length + 1) : Q4)]).getD j (0, 0, 0, 0) = s.2.getD j (0, 0, 0, 0) := getD_l (by omega)
        rw [this, hY3]
        exact STQ_o (rq j (by omega)) e 3 _
    match k, hk with
    | 0, _ =>
      refine J_aload_n (pc := 0) dX11_readsStep_0 rfl ?_
      refine J_cvr (pc := 1) (N := mX11_stepHere) dX11_readsStep_1 ml_X11_254 cf_X11_stepHere cv_X11_stepHere (r_X11_stepHere (S := Y) (a := s.1.1) (b := b) (h := s.1.2.2) hxy hle hb.symm) rfl rfl (Nat.le_of_ble_eq_true rfl) (by omega) (rv_of (ci := 11) rfl rfl rfl) ?_
      rw [h1]
      refine J_t1 (y := 0) rfl ?_
      refine J_istore_n (pc := 4) dX11_readsStep_4 (by decide) rfl ?_
      refine J_iload_n (pc := 5) dX11_readsStep_5 rfl ?_
      refine J_iconst (pc := 6) (v := -1) dX11_readsStep_6 (by decide) ?_
      refine J_icmp_ne (pc := 7) (tgt := 19) dX11_readsStep_7 (by decide) (fun c7 => ?_) (fun c7 => absurd c7 (by decide))
      refine J_iload_n (pc := 19) dX11_readsStep_19 rfl ?_
      refine J_bipush (pc := 20) (v := 6) dX11_readsStep_20 (by decide) ?_
      refine J_icmp_ne (pc := 22) (tgt := 33) dX11_readsStep_22 (by decide) (fun c22 => ?_) (fun c22 => absurd c22 (by decide))
      refine J_aload_n (pc := 33) dX11_readsStep_33 rfl ?_
      refine J_geti (pc := 34) dX11_readsStep_34 kc11 fl_X11_119 rfl ?_
      refine J_t1 (y := 0) rfl ?_
      refine J_if_eq (pc := 37) (tgt := 41) dX11_readsStep_37 (by decide) (fun c37 => ?_) (fun c37 => absurd rfl c37)
      refine J_aload_n (pc := 41) dX11_readsStep_41 rfl ?_
      refine J_cvv (pc := 42) (N := mX11_skipWord) dX11_readsStep_42 ml_X11_156 cf_X11_skipWord cv_X11_skipWord (r_X11_skipWord (S := Y) (t := (b, 0, s.1.2.2)) hxy hbl) rfl rfl (Nat.le_of_ble_eq_true rfl) (by omega) (rv_of (ci := 11) rfl rfl rfl) ?_
      refine J_aload_n (pc := 45) dX11_readsStep_45 rfl ?_
      refine J_getr (pc := 46) dX11_readsStep_46 kc11 fl_X11_70 rfl ?_
      refine J_aload_n (pc := 49) dX11_readsStep_49 rfl ?_
      refine J_geti (pc := 50) dX11_readsStep_50 kc11 fl_X11_257 rfl ?_
      refine J_ar1 (pc := 53) dX11_readsStep_53 rfl hM1 ⟨by omega, by decide⟩ ?_
      refine J_astore_n (pc := 54) dX11_readsStep_54 (by decide) rfl ?_
      refine J_aload_n (pc := 55) dX11_readsStep_55 rfl ?_
      refine J_dup (pc := 56) dX11_readsStep_56 rfl ?_
      refine J_geti (pc := 57) dX11_readsStep_57 kc11 fl_X11_257 rfl ?_
      refine J_t1 (y := nI i) hM1 ?_
      refine J_iconst (pc := 60) (v := 1) dX11_readsStep_60 (by decide) ?_
      refine J_iadd (pc := 61) dX11_readsStep_61 ?_
      refine J_t1 (y := nI (i + 1)) (nI_1 i) ?_
      refine J_puti (pc := 62) dX11_readsStep_62 kc11 fl_X11_257 rfl ⟨rfl, rfl⟩ ?_
      refine J_cg2 (ps_sF _ _ (by decide) (by decide) (by decide)) ?_
      refine J_aload_n (pc := 65) dX11_readsStep_65 rfl ?_
      refine J_iconst (pc := 66) (v := 0) dX11_readsStep_66 (by decide) ?_
      refine J_iload_n (pc := 67) dX11_readsStep_67 rfl ?_
      refine J_is (pc := 68) dX11_readsStep_68 (lay_step hi8) (rfl : (0 : Int32) = nI 0) ⟨by first | decide | omega, by decide⟩ ?_
      refine J_cg2 (S' := ps Y0 t0) (by rw [hY0, ht0]; rfl) ?_
      refine J_iload_n (pc := 69) dX11_readsStep_69 rfl ?_
      refine J_iconst (pc := 70) (v := 2) dX11_readsStep_70 (by decide) ?_
      refine J_icmp_lt (pc := 71) (tgt := 79) dX11_readsStep_71 (by decide) (fun c71 => ?_) (fun c71 => absurd (by decide) c71)
      refine J_aload_n (pc := 79) dX11_readsStep_79 rfl ?_
      refine J_iconst (pc := 80) (v := 1) dX11_readsStep_80 (by decide) ?_
      refine J_aload_n (pc := 81) dX11_readsStep_81 rfl ?_
      refine J_iconst (pc := 82) (v := 0) dX11_readsStep_82 (by decide) ?_
      refine J_aload_n (pc := 83) dX11_readsStep_83 rfl ?_
      refine J_getr (pc := 84) dX11_readsStep_84 kc11 fl_X11_23 rfl ?_
      refine J_iconst (pc := 87) (v := 1) dX11_readsStep_87 (by decide) ?_
      refine J_il (pc := 88) dX11_readsStep_88 (by first | rfl | assumption) (rfl : (1 : Int32) = nI 1) ⟨by first | decide | omega, by decide⟩ ?_
      refine J_t1 (y := nI nr) ((hl63 1).trans hT.2.1) ?_
      refine J_iconst (pc := 89) (v := 1) dX11_readsStep_89 (by decide) ?_
      refine J_isub (pc := 90) dX11_readsStep_90 ?_
      refine J_cvr (pc := 91) (N := mX11_number) dX11_readsStep_91 ml_X11_175 cf_X11_number cv_X11_number (r_X11_number (S := Y0) (lo := 0) (hi := nr) (t := t0) hx0 p0' rfl rfl (by decide) (by omega)) rfl rfl (Nat.le_of_ble_eq_true rfl) (by omega) (rv_of (ci := 11) rfl rfl rfl) ?_
      refine J_is (pc := 94) dX11_readsStep_94 (lay_step hi8) (rfl : (1 : Int32) = nI 1) ⟨by first | decide | omega, by decide⟩ ?_
      refine J_iload_n (pc := 95) dX11_readsStep_95 rfl ?_
      refine J_iconst (pc := 96) (v := 2) dX11_readsStep_96 (by decide) ?_
      refine J_icmp_eq (pc := 97) (tgt := 105) dX11_readsStep_97 (by decide) (fun c97 => absurd c97 (by decide)) (fun c97 => ?_)
      refine J_iload_n (pc := 100) dX11_readsStep_100 rfl ?_
      refine J_iconst (pc := 101) (v := 4) dX11_readsStep_101 (by decide) ?_
      refine J_icmp_ne (pc := 102) (tgt := 121) dX11_readsStep_102 (by decide) (fun c102 => ?_) (fun c102 => absurd c102 (by decide))
      refine J_iload_n (pc := 121) dX11_readsStep_121 rfl ?_
      refine J_iconst (pc := 122) (v := 3) dX11_readsStep_122 (by decide) ?_
      refine J_icmp_ne (pc := 123) (tgt := 142) dX11_readsStep_123 (by decide) (fun c123 => ?_) (fun c123 => absurd c123 (by decide))
      refine J_iload_n (pc := 142) dX11_readsStep_142 rfl ?_
      refine J_bipush (pc := 143) (v := 6) dX11_readsStep_143 (by decide) ?_
      refine J_icmp_ne (pc := 145) (tgt := 215) dX11_readsStep_145 (by decide) (fun c145 => ?_) (fun c145 => absurd c145 (by decide))
      exact fin (sA Y0 (455 + i) 1 (nI (pnum cc n 0 nr t0).1)) (pnum cc n 0 nr t0).1 0 (pnum cc n 0 nr t0).2 (FRL_A hO0 (stA_80 i hi8)) h80 h30 (by rw [sa_n (by decide)]; exact hr0) (fun _ => by rw [sa_e]) (fun z => absurd z (by decide)) (fun j hj => STQ_o (hq0 j hj) (by omega) 1 _) (PO_num hx p0' 0 nr) (by rw [hr]; rfl)
    | 1, _ =>
      refine J_aload_n (pc := 0) dX11_readsStep_0 rfl ?_
      refine J_cvr (pc := 1) (N := mX11_stepHere) dX11_readsStep_1 ml_X11_254 cf_X11_stepHere cv_X11_stepHere (r_X11_stepHere (S := Y) (a := s.1.1) (b := b) (h := s.1.2.2) hxy hle hb.symm) rfl rfl (Nat.le_of_ble_eq_true rfl) (by omega) (rv_of (ci := 11) rfl rfl rfl) ?_
      rw [h1]
      refine J_t1 (y := 1) rfl ?_
      refine J_istore_n (pc := 4) dX11_readsStep_4 (by decide) rfl ?_
      refine J_iload_n (pc := 5) dX11_readsStep_5 rfl ?_
      refine J_iconst (pc := 6) (v := -1) dX11_readsStep_6 (by decide) ?_
      refine J_icmp_ne (pc := 7) (tgt := 19) dX11_readsStep_7 (by decide) (fun c7 => ?_) (fun c7 => absurd c7 (by decide))
      refine J_iload_n (pc := 19) dX11_readsStep_19 rfl ?_
      refine J_bipush (pc := 20) (v := 6) dX11_readsStep_20 (by decide) ?_
      refine J_icmp_ne (pc := 22) (tgt := 33) dX11_readsStep_22 (by decide) (fun c22 => ?_) (fun c22 => absurd c22 (by decide))
      refine J_aload_n (pc := 33) dX11_readsStep_33 rfl ?_
      refine J_geti (pc := 34) dX11_readsStep_34 kc11 fl_X11_119 rfl ?_
      refine J_t1 (y := 0) rfl ?_
      refine J_if_eq (pc := 37) (tgt := 41) dX11_readsStep_37 (by decide) (fun c37 => ?_) (fun c37 => absurd rfl c37)
      refine J_aload_n (pc := 41) dX11_readsStep_41 rfl ?_
      refine J_cvv (pc := 42) (N := mX11_skipWord) dX11_readsStep_42 ml_X11_156 cf_X11_skipWord cv_X11_skipWord (r_X11_skipWord (S := Y) (t := (b, 0, s.1.2.2)) hxy hbl) rfl rfl (Nat.le_of_ble_eq_true rfl) (by omega) (rv_of (ci := 11) rfl rfl rfl) ?_
      refine J_aload_n (pc := 45) dX11_readsStep_45 rfl ?_
      refine J_getr (pc := 46) dX11_readsStep_46 kc11 fl_X11_70 rfl ?_
      refine J_aload_n (pc := 49) dX11_readsStep_49 rfl ?_
      refine J_geti (pc := 50) dX11_readsStep_50 kc11 fl_X11_257 rfl ?_
      refine J_ar1 (pc := 53) dX11_readsStep_53 rfl hM1 ⟨by omega, by decide⟩ ?_
      refine J_astore_n (pc := 54) dX11_readsStep_54 (by decide) rfl ?_
      refine J_aload_n (pc := 55) dX11_readsStep_55 rfl ?_
      refine J_dup (pc := 56) dX11_readsStep_56 rfl ?_
      refine J_geti (pc := 57) dX11_readsStep_57 kc11 fl_X11_257 rfl ?_
      refine J_t1 (y := nI i) hM1 ?_
      refine J_iconst (pc := 60) (v := 1) dX11_readsStep_60 (by decide) ?_
      refine J_iadd (pc := 61) dX11_readsStep_61 ?_
      refine J_t1 (y := nI (i + 1)) (nI_1 i) ?_
      refine J_puti (pc := 62) dX11_readsStep_62 kc11 fl_X11_257 rfl ⟨rfl, rfl⟩ ?_
      refine J_cg2 (ps_sF _ _ (by decide) (by decide) (by decide)) ?_
      refine J_aload_n (pc := 65) dX11_readsStep_65 rfl ?_
      refine J_iconst (pc := 66) (v := 0) dX11_readsStep_66 (by decide) ?_
      refine J_iload_n (pc := 67) dX11_readsStep_67 rfl ?_
      refine J_is (pc := 68) dX11_readsStep_68 (lay_step hi8) (rfl : (0 : Int32) = nI 0) ⟨by first | decide | omega, by decide⟩ ?_
      refine J_cg2 (S' := ps Y0 t0) (by rw [hY0, ht0]; rfl) ?_
      refine J_iload_n (pc := 69) dX11_readsStep_69 rfl ?_
      refine J_iconst (pc := 70) (v := 2) dX11_readsStep_70 (by decide) ?_
      refine J_icmp_lt (pc := 71) (tgt := 79) dX11_readsStep_71 (by decide) (fun c71 => ?_) (fun c71 => absurd (by decide) c71)
      refine J_aload_n (pc := 79) dX11_readsStep_79 rfl ?_
      refine J_iconst (pc := 80) (v := 1) dX11_readsStep_80 (by decide) ?_
      refine J_aload_n (pc := 81) dX11_readsStep_81 rfl ?_
      refine J_iconst (pc := 82) (v := 0) dX11_readsStep_82 (by decide) ?_
      refine J_aload_n (pc := 83) dX11_readsStep_83 rfl ?_
      refine J_getr (pc := 84) dX11_readsStep_84 kc11 fl_X11_23 rfl ?_
      refine J_iconst (pc := 87) (v := 1) dX11_readsStep_87 (by decide) ?_
      refine J_il (pc := 88) dX11_readsStep_88 (by first | rfl | assumption) (rfl : (1 : Int32) = nI 1) ⟨by first | decide | omega, by decide⟩ ?_
      refine J_t1 (y := nI nr) ((hl63 1).trans hT.2.1) ?_
      refine J_iconst (pc := 89) (v := 1) dX11_readsStep_89 (by decide) ?_
      refine J_isub (pc := 90) dX11_readsStep_90 ?_
      refine J_cvr (pc := 91) (N := mX11_number) dX11_readsStep_91 ml_X11_175 cf_X11_number cv_X11_number (r_X11_number (S := Y0) (lo := 0) (hi := nr) (t := t0) hx0 p0' rfl rfl (by decide) (by omega)) rfl rfl (Nat.le_of_ble_eq_true rfl) (by omega) (rv_of (ci := 11) rfl rfl rfl) ?_
      refine J_is (pc := 94) dX11_readsStep_94 (lay_step hi8) (rfl : (1 : Int32) = nI 1) ⟨by first | decide | omega, by decide⟩ ?_
      refine J_iload_n (pc := 95) dX11_readsStep_95 rfl ?_
      refine J_iconst (pc := 96) (v := 2) dX11_readsStep_96 (by decide) ?_
      refine J_icmp_eq (pc := 97) (tgt := 105) dX11_readsStep_97 (by decide) (fun c97 => absurd c97 (by decide)) (fun c97 => ?_)
      refine J_iload_n (pc := 100) dX11_readsStep_100 rfl ?_
      refine J_iconst (pc := 101) (v := 4) dX11_readsStep_101 (by decide) ?_
      refine J_icmp_ne (pc := 102) (tgt := 121) dX11_readsStep_102 (by decide) (fun c102 => ?_) (fun c102 => absurd c102 (by decide))
      refine J_iload_n (pc := 121) dX11_readsStep_121 rfl ?_
      refine J_iconst (pc := 122) (v := 3) dX11_readsStep_122 (by decide) ?_
      refine J_icmp_ne (pc := 123) (tgt := 142) dX11_readsStep_123 (by decide) (fun c123 => ?_) (fun c123 => absurd c123 (by decide))
      refine J_iload_n (pc := 142) dX11_readsStep_142 rfl ?_
      refine J_bipush (pc := 143) (v := 6) dX11_readsStep_143 (by decide) ?_
      refine J_icmp_ne (pc := 145) (tgt := 215) dX11_readsStep_145 (by decide) (fun c145 => ?_) (fun c145 => absurd c145 (by decide))
      exact fin (sA Y0 (455 + i) 1 (nI (pnum cc n 0 nr t0).1)) (pnum cc n 0 nr t0).1 0 (pnum cc n 0 nr t0).2 (FRL_A hO0 (stA_80 i hi8)) h80 h30 (by rw [sa_n (by decide)]; exact hr0) (fun _ => by rw [sa_e]) (fun z => absurd z (by decide)) (fun j hj => STQ_o (hq0 j hj) (by omega) 1 _) (PO_num hx p0' 0 nr) (by rw [hr]; rfl)
    | 2, _ =>
      refine J_aload_n (pc := 0) dX11_readsStep_0 rfl ?_
      refine J_cvr (pc := 1) (N := mX11_stepHere) dX11_readsStep_1 ml_X11_254 cf_X11_stepHere cv_X11_stepHere (r_X11_stepHere (S := Y) (a := s.1.1) (b := b) (h := s.1.2.2) hxy hle hb.symm) rfl rfl (Nat.le_of_ble_eq_true rfl) (by omega) (rv_of (ci := 11) rfl rfl rfl) ?_
      rw [h1]
      refine J_t1 (y := 2) rfl ?_
      refine J_istore_n (pc := 4) dX11_readsStep_4 (by decide) rfl ?_
      refine J_iload_n (pc := 5) dX11_readsStep_5 rfl ?_
      refine J_iconst (pc := 6) (v := -1) dX11_readsStep_6 (by decide) ?_
      refine J_icmp_ne (pc := 7) (tgt := 19) dX11_readsStep_7 (by decide) (fun c7 => ?_) (fun c7 => absurd c7 (by decide))
      refine J_iload_n (pc := 19) dX11_readsStep_19 rfl ?_
      refine J_bipush (pc := 20) (v := 6) dX11_readsStep_20 (by decide) ?_
      refine J_icmp_ne (pc := 22) (tgt := 33) dX11_readsStep_22 (by decide) (fun c22 => ?_) (fun c22 => absurd c22 (by decide))
      refine J_aload_n (pc := 33) dX11_readsStep_33 rfl ?_
      refine J_geti (pc := 34) dX11_readsStep_34 kc11 fl_X11_119 rfl ?_
      refine J_t1 (y := 0) rfl ?_
      refine J_if_eq (pc := 37) (tgt := 41) dX11_readsStep_37 (by decide) (fun c37 => ?_) (fun c37 => absurd rfl c37)
      refine J_aload_n (pc := 41) dX11_readsStep_41 rfl ?_
      refine J_cvv (pc := 42) (N := mX11_skipWord) dX11_readsStep_42 ml_X11_156 cf_X11_skipWord cv_X11_skipWord (r_X11_skipWord (S := Y) (t := (b, 0, s.1.2.2)) hxy hbl) rfl rfl (Nat.le_of_ble_eq_true rfl) (by omega) (rv_of (ci := 11) rfl rfl rfl) ?_
      refine J_aload_n (pc := 45) dX11_readsStep_45 rfl ?_
      refine J_getr (pc := 46) dX11_readsStep_46 kc11 fl_X11_70 rfl ?_
      refine J_aload_n (pc := 49) dX11_readsStep_49 rfl ?_
      refine J_geti (pc := 50) dX11_readsStep_50 kc11 fl_X11_257 rfl ?_
      refine J_ar1 (pc := 53) dX11_readsStep_53 rfl hM1 ⟨by omega, by decide⟩ ?_
      refine J_astore_n (pc := 54) dX11_readsStep_54 (by decide) rfl ?_
      refine J_aload_n (pc := 55) dX11_readsStep_55 rfl ?_
      refine J_dup (pc := 56) dX11_readsStep_56 rfl ?_
      refine J_geti (pc := 57) dX11_readsStep_57 kc11 fl_X11_257 rfl ?_
      refine J_t1 (y := nI i) hM1 ?_
      refine J_iconst (pc := 60) (v := 1) dX11_readsStep_60 (by decide) ?_
      refine J_iadd (pc := 61) dX11_readsStep_61 ?_
      refine J_t1 (y := nI (i + 1)) (nI_1 i) ?_
      refine J_puti (pc := 62) dX11_readsStep_62 kc11 fl_X11_257 rfl ⟨rfl, rfl⟩ ?_
      refine J_cg2 (ps_sF _ _ (by decide) (by decide) (by decide)) ?_
      refine J_aload_n (pc := 65) dX11_readsStep_65 rfl ?_
      refine J_iconst (pc := 66) (v := 0) dX11_readsStep_66 (by decide) ?_
      refine J_iload_n (pc := 67) dX11_readsStep_67 rfl ?_
      refine J_is (pc := 68) dX11_readsStep_68 (lay_step hi8) (rfl : (0 : Int32) = nI 0) ⟨by first | decide | omega, by decide⟩ ?_
      refine J_cg2 (S' := ps Y0 t0) (by rw [hY0, ht0]; rfl) ?_
      refine J_iload_n (pc := 69) dX11_readsStep_69 rfl ?_
      refine J_iconst (pc := 70) (v := 2) dX11_readsStep_70 (by decide) ?_
      refine J_icmp_lt (pc := 71) (tgt := 79) dX11_readsStep_71 (by decide) (fun c71 => absurd c71 (by decide)) (fun c71 => ?_)
      refine J_iload_n (pc := 74) dX11_readsStep_74 rfl ?_
      refine J_iconst (pc := 75) (v := 3) dX11_readsStep_75 (by decide) ?_
      refine J_icmp_ne (pc := 76) (tgt := 95) dX11_readsStep_76 (by decide) (fun c76 => ?_) (fun c76 => absurd c76 (by decide))
      refine J_iload_n (pc := 95) dX11_readsStep_95 rfl ?_
      refine J_iconst (pc := 96) (v := 2) dX11_readsStep_96 (by decide) ?_
      refine J_icmp_eq (pc := 97) (tgt := 105) dX11_readsStep_97 (by decide) (fun c97 => ?_) (fun c97 => absurd rfl c97)
      refine J_aload_n (pc := 105) dX11_readsStep_105 rfl ?_
      refine J_iconst (pc := 106) (v := 1) dX11_readsStep_106 (by decide) ?_
      refine J_aload_n (pc := 107) dX11_readsStep_107 rfl ?_
      refine J_iconst (pc := 108) (v := 0) dX11_readsStep_108 (by decide) ?_
      refine J_aload_n (pc := 109) dX11_readsStep_109 rfl ?_
      refine J_getr (pc := 110) dX11_readsStep_110 kc11 fl_X11_23 rfl ?_
      refine J_iconst (pc := 113) (v := 0) dX11_readsStep_113 (by decide) ?_
      refine J_il (pc := 114) dX11_readsStep_114 (by first | rfl | assumption) (rfl : (0 : Int32) = nI 0) ⟨by first | decide | omega, by decide⟩ ?_
      refine J_t1 (y := nI ns) ((hl63 0).trans hT.1) ?_
      refine J_iconst (pc := 115) (v := 1) dX11_readsStep_115 (by decide) ?_
      refine J_isub (pc := 116) dX11_readsStep_116 ?_
      refine J_cvr (pc := 117) (N := mX11_number) dX11_readsStep_117 ml_X11_175 cf_X11_number cv_X11_number (r_X11_number (S := Y0) (lo := 0) (hi := ns) (t := t0) hx0 p0' rfl rfl (by decide) (by omega)) rfl rfl (Nat.le_of_ble_eq_true rfl) (by omega) (rv_of (ci := 11) rfl rfl rfl) ?_
      refine J_is (pc := 120) dX11_readsStep_120 (lay_step hi8) (rfl : (1 : Int32) = nI 1) ⟨by first | decide | omega, by decide⟩ ?_
      refine J_iload_n (pc := 121) dX11_readsStep_121 rfl ?_
      refine J_iconst (pc := 122) (v := 3) dX11_readsStep_122 (by decide) ?_
      refine J_icmp_ne (pc := 123) (tgt := 142) dX11_readsStep_123 (by decide) (fun c123 => ?_) (fun c123 => absurd c123 (by decide))
      refine J_iload_n (pc := 142) dX11_readsStep_142 rfl ?_
      refine J_bipush (pc := 143) (v := 6) dX11_readsStep_143 (by decide) ?_
      refine J_icmp_ne (pc := 145) (tgt := 215) dX11_readsStep_145 (by decide) (fun c145 => ?_) (fun c145 => absurd c145 (by decide))
      exact fin (sA Y0 (455 + i) 1 (nI (pnum cc n 0 ns t0).1)) (pnum cc n 0 ns t0).1 0 (pnum cc n 0 ns t0).2 (FRL_A hO0 (stA_80 i hi8)) h80 h30 (by rw [sa_n (by decide)]; exact hr0) (fun _ => by rw [sa_e]) (fun z => absurd z (by decide)) (fun j hj => STQ_o (hq0 j hj) (by omega) 1 _) (PO_num hx p0' 0 ns) (by rw [hr]; rfl)
    | 3, _ =>
      refine J_aload_n (pc := 0) dX11_readsStep_0 rfl ?_
      refine J_cvr (pc := 1) (N := mX11_stepHere) dX11_readsStep_1 ml_X11_254 cf_X11_stepHere cv_X11_stepHere (r_X11_stepHere (S := Y) (a := s.1.1) (b := b) (h := s.1.2.2) hxy hle hb.symm) rfl rfl (Nat.le_of_ble_eq_true rfl) (by omega) (rv_of (ci := 11) rfl rfl rfl) ?_
      rw [h1]
      refine J_t1 (y := 3) rfl ?_
      refine J_istore_n (pc := 4) dX11_readsStep_4 (by decide) rfl ?_
      refine J_iload_n (pc := 5) dX11_readsStep_5 rfl ?_
      refine J_iconst (pc := 6) (v := -1) dX11_readsStep_6 (by decide) ?_
      refine J_icmp_ne (pc := 7) (tgt := 19) dX11_readsStep_7 (by decide) (fun c7 => ?_) (fun c7 => absurd c7 (by decide))
      refine J_iload_n (pc := 19) dX11_readsStep_19 rfl ?_
      refine J_bipush (pc := 20) (v := 6) dX11_readsStep_20 (by decide) ?_
      refine J_icmp_ne (pc := 22) (tgt := 33) dX11_readsStep_22 (by decide) (fun c22 => ?_) (fun c22 => absurd c22 (by decide))
      refine J_aload_n (pc := 33) dX11_readsStep_33 rfl ?_
      refine J_geti (pc := 34) dX11_readsStep_34 kc11 fl_X11_119 rfl ?_
      refine J_t1 (y := 0) rfl ?_
      refine J_if_eq (pc := 37) (tgt := 41) dX11_readsStep_37 (by decide) (fun c37 => ?_) (fun c37 => absurd rfl c37)
      refine J_aload_n (pc := 41) dX11_readsStep_41 rfl ?_
      refine J_cvv (pc := 42) (N := mX11_skipWord) dX11_readsStep_42 ml_X11_156 cf_X11_skipWord cv_X11_skipWord (r_X11_skipWord (S := Y) (t := (b, 0, s.1.2.2)) hxy hbl) rfl rfl (Nat.le_of_ble_eq_true rfl) (by omega) (rv_of (ci := 11) rfl rfl rfl) ?_
      refine J_aload_n (pc := 45) dX11_readsStep_45 rfl ?_
      refine J_getr (pc := 46) dX11_readsStep_46 kc11 fl_X11_70 rfl ?_
      refine J_aload_n (pc := 49) dX11_readsStep_49 rfl ?_
      refine J_geti (pc := 50) dX11_readsStep_50 kc11 fl_X11_257 rfl ?_
      refine J_ar1 (pc := 53) dX11_readsStep_53 rfl hM1 ⟨by omega, by decide⟩ ?_
      refine J_astore_n (pc := 54) dX11_readsStep_54 (by decide) rfl ?_
      refine J_aload_n (pc := 55) dX11_readsStep_55 rfl ?_
      refine J_dup (pc := 56) dX11_readsStep_56 rfl ?_
      refine J_geti (pc := 57) dX11_readsStep_57 kc11 fl_X11_257 rfl ?_
      refine J_t1 (y := nI i) hM1 ?_
      refine J_iconst (pc := 60) (v := 1) dX11_readsStep_60 (by decide) ?_
      refine J_iadd (pc := 61) dX11_readsStep_61 ?_
      refine J_t1 (y := nI (i + 1)) (nI_1 i) ?_
      refine J_puti (pc := 62) dX11_readsStep_62 kc11 fl_X11_257 rfl ⟨rfl, rfl⟩ ?_
      refine J_cg2 (ps_sF _ _ (by decide) (by decide) (by decide)) ?_
      refine J_aload_n (pc := 65) dX11_readsStep_65 rfl ?_
      refine J_iconst (pc := 66) (v := 0) dX11_readsStep_66 (by decide) ?_
      refine J_iload_n (pc := 67) dX11_readsStep_67 rfl ?_
      refine J_is (pc := 68) dX11_readsStep_68 (lay_step hi8) (rfl : (0 : Int32) = nI 0) ⟨by first | decide | omega, by decide⟩ ?_
      refine J_cg2 (S' := ps Y0 t0) (by rw [hY0, ht0]; rfl) ?_
      refine J_iload_n (pc := 69) dX11_readsStep_69 rfl ?_
      refine J_iconst (pc := 70) (v := 2) dX11_readsStep_70 (by decide) ?_
      refine J_icmp_lt (pc := 71) (tgt := 79) dX11_readsStep_71 (by decide) (fun c71 => absurd c71 (by decide)) (fun c71 => ?_)
      refine J_iload_n (pc := 74) dX11_readsStep_74 rfl ?_
      refine J_iconst (pc := 75) (v := 3) dX11_readsStep_75 (by decide) ?_
      refine J_icmp_ne (pc := 76) (tgt := 95) dX11_readsStep_76 (by decide) (fun c76 => absurd rfl c76) (fun c76 => ?_)
      refine J_aload_n (pc := 79) dX11_readsStep_79 rfl ?_
      refine J_iconst (pc := 80) (v := 1) dX11_readsStep_80 (by decide) ?_
      refine J_aload_n (pc := 81) dX11_readsStep_81 rfl ?_
      refine J_iconst (pc := 82) (v := 0) dX11_readsStep_82 (by decide) ?_
      refine J_aload_n (pc := 83) dX11_readsStep_83 rfl ?_
      refine J_getr (pc := 84) dX11_readsStep_84 kc11 fl_X11_23 rfl ?_
      refine J_iconst (pc := 87) (v := 1) dX11_readsStep_87 (by decide) ?_
      refine J_il (pc := 88) dX11_readsStep_88 (by first | rfl | assumption) (rfl : (1 : Int32) = nI 1) ⟨by first | decide | omega, by decide⟩ ?_
      refine J_t1 (y := nI nr) ((hl63 1).trans hT.2.1) ?_
      refine J_iconst (pc := 89) (v := 1) dX11_readsStep_89 (by decide) ?_
      refine J_isub (pc := 90) dX11_readsStep_90 ?_
      refine J_cvr (pc := 91) (N := mX11_number) dX11_readsStep_91 ml_X11_175 cf_X11_number cv_X11_number (r_X11_number (S := Y0) (lo := 0) (hi := nr) (t := t0) hx0 p0' rfl rfl (by decide) (by omega)) rfl rfl (Nat.le_of_ble_eq_true rfl) (by omega) (rv_of (ci := 11) rfl rfl rfl) ?_
      refine J_is (pc := 94) dX11_readsStep_94 (lay_step hi8) (rfl : (1 : Int32) = nI 1) ⟨by first | decide | omega, by decide⟩ ?_
      refine J_iload_n (pc := 95) dX11_readsStep_95 rfl ?_
      refine J_iconst (pc := 96) (v := 2) dX11_readsStep_96 (by decide) ?_
      refine J_icmp_eq (pc := 97) (tgt := 105) dX11_readsStep_97 (by decide) (fun c97 => absurd c97 (by decide)) (fun c97 => ?_)
      refine J_iload_n (pc := 100) dX11_readsStep_100 rfl ?_
      refine J_iconst (pc := 101) (v := 4) dX11_readsStep_101 (by decide) ?_
      refine J_icmp_ne (pc := 102) (tgt := 121) dX11_readsStep_102 (by decide) (fun c102 => ?_) (fun c102 => absurd c102 (by decide))
      refine J_iload_n (pc := 121) dX11_readsStep_121 rfl ?_
      refine J_iconst (pc := 122) (v := 3) dX11_readsStep_122 (by decide) ?_
      refine J_icmp_ne (pc := 123) (tgt := 142) dX11_readsStep_123 (by decide) (fun c123 => absurd rfl c123) (fun c123 => ?_)
      refine J_aload_n (pc := 126) dX11_readsStep_126 rfl ?_
      refine J_iconst (pc := 127) (v := 2) dX11_readsStep_127 (by decide) ?_
      refine J_aload_n (pc := 128) dX11_readsStep_128 rfl ?_
      refine J_iconst (pc := 129) (v := 0) dX11_readsStep_129 (by decide) ?_
      refine J_aload_n (pc := 130) dX11_readsStep_130 rfl ?_
      refine J_getr (pc := 131) dX11_readsStep_131 kc11 fl_X11_23 rfl ?_
      refine J_iconst (pc := 134) (v := 2) dX11_readsStep_134 (by decide) ?_
      refine J_il (pc := 135) dX11_readsStep_135 (by first | rfl | assumption) (rfl : (2 : Int32) = nI 2) ⟨by first | decide | omega, by decide⟩ ?_
      refine J_t1 (y := nI np) ((show sa (sA Y0 (455 + i) 1 _) 63 2 = sa B 63 2 by rw [sa_o (by omega)]; exact hl63 2).trans hT.2.2.1) ?_
      refine J_iconst (pc := 136) (v := 1) dX11_readsStep_136 (by decide) ?_
      refine J_isub (pc := 137) dX11_readsStep_137 ?_
      refine J_cvr (pc := 138) (N := mX11_number) dX11_readsStep_138 ml_X11_175 cf_X11_number cv_X11_number (r_X11_number (S := sA Y0 (455 + i) 1 (nI (pnum cc n 0 nr t0).1)) (lo := 0) (hi := np) (t := (pnum cc n 0 nr t0).2) (FRL_TX' (FRL_A hO0 (stA_80 i hi8)) rfl rfl hx) (PO_num hx p0' 0 nr) rfl rfl (by decide) (by omega)) rfl rfl (Nat.le_of_ble_eq_true rfl) (by omega) (rv_of (ci := 11) rfl rfl rfl) ?_
      refine J_is (pc := 141) dX11_readsStep_141 (lay_step hi8) (rfl : (2 : Int32) = nI 2) ⟨by first | decide | omega, by decide⟩ ?_
      refine J_iload_n (pc := 142) dX11_readsStep_142 rfl ?_
      refine J_bipush (pc := 143) (v := 6) dX11_readsStep_143 (by decide) ?_
      refine J_icmp_ne (pc := 145) (tgt := 215) dX11_readsStep_145 (by decide) (fun c145 => ?_) (fun c145 => absurd c145 (by decide))
      exact fin (sA (sA Y0 (455 + i) 1 (nI (pnum cc n 0 nr t0).1)) (455 + i) 2 (nI (pnum cc n 0 np (pnum cc n 0 nr t0).2).1)) (pnum cc n 0 nr t0).1 (pnum cc n 0 np (pnum cc n 0 nr t0).2).1 (pnum cc n 0 np (pnum cc n 0 nr t0).2).2 (FRL_A (FRL_A hO0 (stA_80 i hi8)) (stA_80 i hi8)) h80 h30 (by rw [sa_n (by decide), sa_n (by decide)]; exact hr0) (fun _ => by rw [sa_n (by decide), sa_e]) (fun _ => by rw [sa_e]) (fun j hj => STQ_o (STQ_o (hq0 j hj) (by omega) 1 _) (by omega) 2 _) (PO_num hx (PO_num hx p0' 0 nr) 0 np) (by rw [hr]; rfl)
    | 4, _ =>
      refine J_aload_n (pc := 0) dX11_readsStep_0 rfl ?_
      refine J_cvr (pc := 1) (N := mX11_stepHere) dX11_readsStep_1 ml_X11_254 cf_X11_stepHere cv_X11_stepHere (r_X11_stepHere (S := Y) (a := s.1.1) (b := b) (h := s.1.2.2) hxy hle hb.symm) rfl rfl (Nat.le_of_ble_eq_true rfl) (by omega) (rv_of (ci := 11) rfl rfl rfl) ?_
      rw [h1]
      refine J_t1 (y := 4) rfl ?_
      refine J_istore_n (pc := 4) dX11_readsStep_4 (by decide) rfl ?_
      refine J_iload_n (pc := 5) dX11_readsStep_5 rfl ?_
      refine J_iconst (pc := 6) (v := -1) dX11_readsStep_6 (by decide) ?_
      refine J_icmp_ne (pc := 7) (tgt := 19) dX11_readsStep_7 (by decide) (fun c7 => ?_) (fun c7 => absurd c7 (by decide))
      refine J_iload_n (pc := 19) dX11_readsStep_19 rfl ?_
      refine J_bipush (pc := 20) (v := 6) dX11_readsStep_20 (by decide) ?_
      refine J_icmp_ne (pc := 22) (tgt := 33) dX11_readsStep_22 (by decide) (fun c22 => ?_) (fun c22 => absurd c22 (by decide))
      refine J_aload_n (pc := 33) dX11_readsStep_33 rfl ?_
      refine J_geti (pc := 34) dX11_readsStep_34 kc11 fl_X11_119 rfl ?_
      refine J_t1 (y := 0) rfl ?_
      refine J_if_eq (pc := 37) (tgt := 41) dX11_readsStep_37 (by decide) (fun c37 => ?_) (fun c37 => absurd rfl c37)
      refine J_aload_n (pc := 41) dX11_readsStep_41 rfl ?_
      refine J_cvv (pc := 42) (N := mX11_skipWord) dX11_readsStep_42 ml_X11_156 cf_X11_skipWord cv_X11_skipWord (r_X11_skipWord (S := Y) (t := (b, 0, s.1.2.2)) hxy hbl) rfl rfl (Nat.le_of_ble_eq_true rfl) (by omega) (rv_of (ci := 11) rfl rfl rfl) ?_
      refine J_aload_n (pc := 45) dX11_readsStep_45 rfl ?_
      refine J_getr (pc := 46) dX11_readsStep_46 kc11 fl_X11_70 rfl ?_
      refine J_aload_n (pc := 49) dX11_readsStep_49 rfl ?_
      refine J_geti (pc := 50) dX11_readsStep_50 kc11 fl_X11_257 rfl ?_
      refine J_ar1 (pc := 53) dX11_readsStep_53 rfl hM1 ⟨by omega, by decide⟩ ?_
      refine J_astore_n (pc := 54) dX11_readsStep_54 (by decide) rfl ?_
      refine J_aload_n (pc := 55) dX11_readsStep_55 rfl ?_
      refine J_dup (pc := 56) dX11_readsStep_56 rfl ?_
      refine J_geti (pc := 57) dX11_readsStep_57 kc11 fl_X11_257 rfl ?_
      refine J_t1 (y := nI i) hM1 ?_
      refine J_iconst (pc := 60) (v := 1) dX11_readsStep_60 (by decide) ?_
      refine J_iadd (pc := 61) dX11_readsStep_61 ?_
      refine J_t1 (y := nI (i + 1)) (nI_1 i) ?_
      refine J_puti (pc := 62) dX11_readsStep_62 kc11 fl_X11_257 rfl ⟨rfl, rfl⟩ ?_
      refine J_cg2 (ps_sF _ _ (by decide) (by decide) (by decide)) ?_
      refine J_aload_n (pc := 65) dX11_readsStep_65 rfl ?_
      refine J_iconst (pc := 66) (v := 0) dX11_readsStep_66 (by decide) ?_
      refine J_iload_n (pc := 67) dX11_readsStep_67 rfl ?_
      refine J_is (pc := 68) dX11_readsStep_68 (lay_step hi8) (rfl : (0 : Int32) = nI 0) ⟨by first | decide | omega, by decide⟩ ?_
      refine J_cg2 (S' := ps Y0 t0) (by rw [hY0, ht0]; rfl) ?_
      refine J_iload_n (pc := 69) dX11_readsStep_69 rfl ?_
      refine J_iconst (pc := 70) (v := 2) dX11_readsStep_70 (by decide) ?_
      refine J_icmp_lt (pc := 71) (tgt := 79) dX11_readsStep_71 (by decide) (fun c71 => absurd c71 (by decide)) (fun c71 => ?_)
      refine J_iload_n (pc := 74) dX11_readsStep_74 rfl ?_
      refine J_iconst (pc := 75) (v := 3) dX11_readsStep_75 (by decide) ?_
      refine J_icmp_ne (pc := 76) (tgt := 95) dX11_readsStep_76 (by decide) (fun c76 => ?_) (fun c76 => absurd c76 (by decide))
      refine J_iload_n (pc := 95) dX11_readsStep_95 rfl ?_
      refine J_iconst (pc := 96) (v := 2) dX11_readsStep_96 (by decide) ?_
      refine J_icmp_eq (pc := 97) (tgt := 105) dX11_readsStep_97 (by decide) (fun c97 => absurd c97 (by decide)) (fun c97 => ?_)
      refine J_iload_n (pc := 100) dX11_readsStep_100 rfl ?_
      refine J_iconst (pc := 101) (v := 4) dX11_readsStep_101 (by decide) ?_
      refine J_icmp_ne (pc := 102) (tgt := 121) dX11_readsStep_102 (by decide) (fun c102 => absurd rfl c102) (fun c102 => ?_)
      refine J_aload_n (pc := 105) dX11_readsStep_105 rfl ?_
      refine J_iconst (pc := 106) (v := 1) dX11_readsStep_106 (by decide) ?_
      refine J_aload_n (pc := 107) dX11_readsStep_107 rfl ?_
      refine J_iconst (pc := 108) (v := 0) dX11_readsStep_108 (by decide) ?_
      refine J_aload_n (pc := 109) dX11_readsStep_109 rfl ?_
      refine J_getr (pc := 110) dX11_readsStep_110 kc11 fl_X11_23 rfl ?_
      refine J_iconst (pc := 113) (v := 0) dX11_readsStep_113 (by decide) ?_
      refine J_il (pc := 114) dX11_readsStep_114 (by first | rfl | assumption) (rfl : (0 : Int32) = nI 0) ⟨by first | decide | omega, by decide⟩ ?_
      refine J_t1 (y := nI ns) ((hl63 0).trans hT.1) ?_
      refine J_iconst (pc := 115) (v := 1) dX11_readsStep_115 (by decide) ?_
      refine J_isub (pc := 116) dX11_readsStep_116 ?_
      refine J_cvr (pc := 117) (N := mX11_number) dX11_readsStep_117 ml_X11_175 cf_X11_number cv_X11_number (r_X11_number (S := Y0) (lo := 0) (hi := ns) (t := t0) hx0 p0' rfl rfl (by decide) (by omega)) rfl rfl (Nat.le_of_ble_eq_true rfl) (by omega) (rv_of (ci := 11) rfl rfl rfl) ?_
      refine J_is (pc := 120) dX11_readsStep_120 (lay_step hi8) (rfl : (1 : Int32) = nI 1) ⟨by first | decide | omega, by decide⟩ ?_
      refine J_iload_n (pc := 121) dX11_readsStep_121 rfl ?_
      refine J_iconst (pc := 122) (v := 3) dX11_readsStep_122 (by decide) ?_
      refine J_icmp_ne (pc := 123) (tgt := 142) dX11_readsStep_123 (by decide) (fun c123 => ?_) (fun c123 => absurd c123 (by decide))
      refine J_iload_n (pc := 142) dX11_readsStep_142 rfl ?_
      refine J_bipush (pc := 143) (v := 6) dX11_readsStep_143 (by decide) ?_
      refine J_icmp_ne (pc := 145) (tgt := 215) dX11_readsStep_145 (by decide) (fun c145 => ?_) (fun c145 => absurd c145 (by decide))
      exact fin (sA Y0 (455 + i) 1 (nI (pnum cc n 0 ns t0).1)) (pnum cc n 0 ns t0).1 0 (pnum cc n 0 ns t0).2 (FRL_A hO0 (stA_80 i hi8)) h80 h30 (by rw [sa_n (by decide)]; exact hr0) (fun _ => by rw [sa_e]) (fun z => absurd z (by decide)) (fun j hj => STQ_o (hq0 j hj) (by omega) 1 _) (PO_num hx p0' 0 ns) (by rw [hr]; rfl)
    | 5, _ =>
      refine J_aload_n (pc := 0) dX11_readsStep_0 rfl ?_
      refine J_cvr (pc := 1) (N := mX11_stepHere) dX11_readsStep_1 ml_X11_254 cf_X11_stepHere cv_X11_stepHere (r_X11_stepHere (S := Y) (a := s.1.1) (b := b) (h := s.1.2.2) hxy hle hb.symm) rfl rfl (Nat.le_of_ble_eq_true rfl) (by omega) (rv_of (ci := 11) rfl rfl rfl) ?_
      rw [h1]
      refine J_t1 (y := 5) rfl ?_
      refine J_istore_n (pc := 4) dX11_readsStep_4 (by decide) rfl ?_
      refine J_iload_n (pc := 5) dX11_readsStep_5 rfl ?_
      refine J_iconst (pc := 6) (v := -1) dX11_readsStep_6 (by decide) ?_
      refine J_icmp_ne (pc := 7) (tgt := 19) dX11_readsStep_7 (by decide) (fun c7 => ?_) (fun c7 => absurd c7 (by decide))
      refine J_iload_n (pc := 19) dX11_readsStep_19 rfl ?_
      refine J_bipush (pc := 20) (v := 6) dX11_readsStep_20 (by decide) ?_
      refine J_icmp_ne (pc := 22) (tgt := 33) dX11_readsStep_22 (by decide) (fun c22 => ?_) (fun c22 => absurd c22 (by decide))
      refine J_aload_n (pc := 33) dX11_readsStep_33 rfl ?_
      refine J_geti (pc := 34) dX11_readsStep_34 kc11 fl_X11_119 rfl ?_
      refine J_t1 (y := 0) rfl ?_
      refine J_if_eq (pc := 37) (tgt := 41) dX11_readsStep_37 (by decide) (fun c37 => ?_) (fun c37 => absurd rfl c37)
      refine J_aload_n (pc := 41) dX11_readsStep_41 rfl ?_
      refine J_cvv (pc := 42) (N := mX11_skipWord) dX11_readsStep_42 ml_X11_156 cf_X11_skipWord cv_X11_skipWord (r_X11_skipWord (S := Y) (t := (b, 0, s.1.2.2)) hxy hbl) rfl rfl (Nat.le_of_ble_eq_true rfl) (by omega) (rv_of (ci := 11) rfl rfl rfl) ?_
      refine J_aload_n (pc := 45) dX11_readsStep_45 rfl ?_
      refine J_getr (pc := 46) dX11_readsStep_46 kc11 fl_X11_70 rfl ?_
      refine J_aload_n (pc := 49) dX11_readsStep_49 rfl ?_
      refine J_geti (pc := 50) dX11_readsStep_50 kc11 fl_X11_257 rfl ?_
      refine J_ar1 (pc := 53) dX11_readsStep_53 rfl hM1 ⟨by omega, by decide⟩ ?_
      refine J_astore_n (pc := 54) dX11_readsStep_54 (by decide) rfl ?_
      refine J_aload_n (pc := 55) dX11_readsStep_55 rfl ?_
      refine J_dup (pc := 56) dX11_readsStep_56 rfl ?_
      refine J_geti (pc := 57) dX11_readsStep_57 kc11 fl_X11_257 rfl ?_
      refine J_t1 (y := nI i) hM1 ?_
      refine J_iconst (pc := 60) (v := 1) dX11_readsStep_60 (by decide) ?_
      refine J_iadd (pc := 61) dX11_readsStep_61 ?_
      refine J_t1 (y := nI (i + 1)) (nI_1 i) ?_
      refine J_puti (pc := 62) dX11_readsStep_62 kc11 fl_X11_257 rfl ⟨rfl, rfl⟩ ?_
      refine J_cg2 (ps_sF _ _ (by decide) (by decide) (by decide)) ?_
      refine J_aload_n (pc := 65) dX11_readsStep_65 rfl ?_
      refine J_iconst (pc := 66) (v := 0) dX11_readsStep_66 (by decide) ?_
      refine J_iload_n (pc := 67) dX11_readsStep_67 rfl ?_
      refine J_is (pc := 68) dX11_readsStep_68 (lay_step hi8) (rfl : (0 : Int32) = nI 0) ⟨by first | decide | omega, by decide⟩ ?_
      refine J_cg2 (S' := ps Y0 t0) (by rw [hY0, ht0]; rfl) ?_
      refine J_iload_n (pc := 69) dX11_readsStep_69 rfl ?_
      refine J_iconst (pc := 70) (v := 2) dX11_readsStep_70 (by decide) ?_
      refine J_icmp_lt (pc := 71) (tgt := 79) dX11_readsStep_71 (by decide) (fun c71 => absurd c71 (by decide)) (fun c71 => ?_)
      refine J_iload_n (pc := 74) dX11_readsStep_74 rfl ?_
      refine J_iconst (pc := 75) (v := 3) dX11_readsStep_75 (by decide) ?_
      refine J_icmp_ne (pc := 76) (tgt := 95) dX11_readsStep_76 (by decide) (fun c76 => ?_) (fun c76 => absurd c76 (by decide))
      refine J_iload_n (pc := 95) dX11_readsStep_95 rfl ?_
      refine J_iconst (pc := 96) (v := 2) dX11_readsStep_96 (by decide) ?_
      refine J_icmp_eq (pc := 97) (tgt := 105) dX11_readsStep_97 (by decide) (fun c97 => absurd c97 (by decide)) (fun c97 => ?_)
      refine J_iload_n (pc := 100) dX11_readsStep_100 rfl ?_
      refine J_iconst (pc := 101) (v := 4) dX11_readsStep_101 (by decide) ?_
      refine J_icmp_ne (pc := 102) (tgt := 121) dX11_readsStep_102 (by decide) (fun c102 => ?_) (fun c102 => absurd c102 (by decide))
      refine J_iload_n (pc := 121) dX11_readsStep_121 rfl ?_
      refine J_iconst (pc := 122) (v := 3) dX11_readsStep_122 (by decide) ?_
      refine J_icmp_ne (pc := 123) (tgt := 142) dX11_readsStep_123 (by decide) (fun c123 => ?_) (fun c123 => absurd c123 (by decide))
      refine J_iload_n (pc := 142) dX11_readsStep_142 rfl ?_
      refine J_bipush (pc := 143) (v := 6) dX11_readsStep_143 (by decide) ?_
      refine J_icmp_ne (pc := 145) (tgt := 215) dX11_readsStep_145 (by decide) (fun c145 => ?_) (fun c145 => absurd c145 (by decide))
      exact fin Y0 0 0 t0 hO0 h80 h30 hr0 (fun z => absurd rfl z) (fun z => absurd z (by decide)) hq0 p0' (by rw [hr]; rfl)
theorem r_rs {g : Gp} {n : Nat} {cc : Nat → Nat} {ns nr np : Nat} : ∀ f, RS0 g n cc ns nr np f ∧ RS1 g n cc ns nr np f
  | 0 => ⟨fun B Y op s r _ _ _ _ _ _ _ _ _ h => (nomatch h), fun B Y op i s r _ _ _ _ _ _ _ _ h => (nomatch h)⟩
  | f + 1 => ⟨rs_s0 (r_rs f).2, rs_s1 (r_rs f).1 (r_rs f).2⟩
